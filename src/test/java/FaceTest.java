import java.io.IOException;
import java.lang.reflect.Constructor;
import java.lang.reflect.Field;
import java.lang.reflect.Method;
import java.lang.reflect.Modifier;
import java.nio.file.Files;
import java.nio.file.Path;
import java.util.Set;
import java.util.TreeSet;
import java.util.regex.Matcher;
import java.util.regex.Pattern;

/** Looks at the public face, and at such rules of LANGUAGE.md as can be seen from outside. */
public final class FaceTest {
    private static final Set<String> FACE = Set.of(
        "int NONE", "HandsReturned()", "int house(int,boolean)", "int field(int,int,int,int,int)",
        "boolean loss(int,int)", "int feed(int,int,int,int,int)", "int end(int)", "int custom()",
        "int fault(int)", "int says(int)", "boolean ill(int,int)", "int work(int,int,int)", "int hire(int,int)",
        "int days(int)", "int houseOf(int,int)", "int fieldOf(int,int)", "int owes(int,int)",
        "int oldest(int,int)", "int payments()", "int payment(int,int)", "int even()", "int plan(int)",
        "int planned(int)", "int about(int)");
    private static final String[] FORBIDDEN = {
        "throw", "throws", "try", "catch", "synchronized", "assert", "import", "package", "->", "::", "Exact"};

    private static int wrong = 0;

    public static void main(String[] args) throws IOException {
        face();
        nestedClasses();
        text();
        System.out.println(wrong == 0 ? "the face is as due" : wrong + " faults of the face");
        if (wrong != 0) {
            System.exit(1);
        }
    }

    private static void fail(String what) {
        wrong++;
        System.out.println(what);
    }

    private static void face() {
        Set<String> seen = new TreeSet<>();
        Set<String> publicNames = new TreeSet<>();
        for (Field f : HandsReturned.class.getDeclaredFields()) {
            boolean constant = Modifier.isStatic(f.getModifiers()) && Modifier.isFinal(f.getModifiers());
            if (!Modifier.isPrivate(f.getModifiers())) {
                seen.add(f.getType().getSimpleName() + " " + f.getName() + (constant ? "" : " (no constant)"));
            }
        }
        for (Constructor<?> c : HandsReturned.class.getDeclaredConstructors()) {
            seen.add("HandsReturned(" + names(c.getParameterTypes()) + ")");
        }
        for (Method m : HandsReturned.class.getDeclaredMethods()) {
            if (!Modifier.isPrivate(m.getModifiers())) {
                seen.add(m.getReturnType().getSimpleName() + " " + m.getName() + "(" + names(m.getParameterTypes()) + ")");
                publicNames.add(m.getName());
            }
        }
        if (!seen.equals(FACE)) {
            fail("the face is " + seen);
        }
        for (Method m : HandsReturned.class.getDeclaredMethods()) {
            if (Modifier.isPrivate(m.getModifiers()) && publicNames.contains(m.getName())) {
                fail("a private method is called " + m.getName());
            }
        }
        if (!Modifier.isFinal(HandsReturned.class.getModifiers())) {
            fail("the class isn't final");
        }
    }

    private static String names(Class<?>[] types) {
        StringBuilder text = new StringBuilder();
        for (Class<?> type : types) {
            text.append(text.length() == 0 ? "" : ",").append(type.getSimpleName());
        }
        return text.toString();
    }

    private static void nestedClasses() {
        Class<?>[] nested = HandsReturned.class.getDeclaredClasses();
        if (nested.length > 11) {
            fail("there are " + nested.length + " classes inside");
        }
        for (Class<?> c : nested) {
            if (!Modifier.isStatic(c.getModifiers()) || Modifier.isPublic(c.getModifiers())) {
                fail(c.getName() + " isn't static, or is public");
            }
            for (Field f : c.getDeclaredFields()) {
                if (Modifier.isStatic(f.getModifiers()) && !Modifier.isFinal(f.getModifiers())) {
                    fail(c.getName() + "." + f.getName() + " is static state");
                }
            }
            for (Method m : c.getDeclaredMethods()) {
                if (m.getParameterCount() > 7) {
                    fail(m.getName() + " has too many parameters");
                }
            }
        }
    }

    private static void text() throws IOException {
        String source = Files.readString(Path.of("src/main/java/HandsReturned.java"));
        String code = source.replaceAll("(?s)/\\*.*?\\*/", " ").replaceAll("//[^\n]*", " ");
        for (String word : FORBIDDEN) {
            boolean isWord = Character.isLetter(word.charAt(0)) && !word.equals("Exact");
            Matcher m = Pattern.compile(isWord ? "\\b" + word + "\\b" : Pattern.quote(word)).matcher(code);
            if (m.find()) {
                fail("the program says " + word);
            }
        }
        rows(code);
    }

    /** All calls of a run live in one room, so only a constructor makes objects and rows. */
    private static void rows(String code) {
        int from = code.indexOf("public HandsReturned() {");
        int to = code.indexOf("\n    }\n", Math.max(0, from));
        if (from < 0 || to < 0) {
            fail("the constructor isn't found");
            return;
        }
        for (String line : (code.substring(0, from) + code.substring(to)).split("\n")) {
            if (line.matches(".*\\bnew\\b.*") && !line.matches("\\s*private final .* = new .*;")) {
                fail("outside a constructor: " + line.trim());
            }
        }
    }
}
