import java.nio.charset.StandardCharsets;
import java.util.Arrays;
import java.util.LinkedHashMap;
import java.util.Map;
import java.util.function.IntFunction;
import java.util.stream.IntStream;

/**
 * One test for each sentence of the document that names a bound: the last input that is taken, the
 * first that is refused on each side, and that a refused call leaves all as it was. Each test begins
 * with the sentence that it is for, and no object is used for more than 512 calls.
 */
public final class EdgesTest {
    private static final int NONE = -1;
    private static final int NO_HOUSE = -1000000;
    private static final int LOW = Integer.MIN_VALUE;
    private static final int HIGH = Integer.MAX_VALUE;
    private static final String[] WORDS = {"plant", "reap", "carry", "lapse", "grace", "food", "wage"};
    private static final int[] LEAST = {0, 0, 0, 1, 0, 0, 0};
    private static final int[] MOST = {99, 99, 99, 400, 400, 99, 999};
    private static final int[] WITHOUT = {1, 1, 1, 400, 0, 0, 0};

    private static String sentence = "";
    private static int sentences = 0;
    private static int wrong = 0;

    private interface Ground {
        HandsReturned make();
    }

    private interface Ask {
        int of(HandsReturned x);
    }

    public static void main(String[] args) {
        termsOfTheGround();
        termsOfTheCustom();
        termsOfWork();
        termsOfDaysAndDebts();
        termsOfPayments();
        termsOfThePlan();
        promises1To9();
        promises10To13();
        promises14To23();
        System.out.println(wrong == 0 ? sentences + " sentences hold at their edges" : wrong + " answers are not as due");
        if (wrong != 0) {
            System.exit(1);
        }
    }

    // ---- how a sentence is looked at

    private static void sentence(String words) {
        sentence = words;
        sentences++;
    }

    private static void due(String call, int got, int want) {
        if (got != want) {
            wrong++;
            System.out.println("\"" + sentence + "\": " + call + " answered " + got + ", due is " + want);
        }
    }

    private static void due(String call, boolean got, boolean want) {
        due(call, got ? 1 : 0, want ? 1 : 0);
    }

    /** The call answers as due, and what can be asked behind it is what it is without the call. */
    private static void refused(Ground ground, String call, Ask ask, int answer) {
        HandsReturned asked = ground.make();
        due(call, ask.of(asked), answer);
        leavesAll(call, asked, ground.make());
    }

    private static void leavesAll(String call, HandsReturned asked, HandsReturned other) {
        Map<String, Integer> was = allAnswers(other);
        Map<String, Integer> is = allAnswers(asked);
        if (!is.keySet().equals(was.keySet())) {
            due(call + ", then how many answers", is.size(), was.size());
            return;
        }
        for (String question : was.keySet()) {
            due(call + ", then " + question, is.get(question), was.get(question));
        }
    }

    /** Taken at both bounds; refused outside, and then all is as it was. */
    private static void bounds(Ground ground, String call, int least, int most, IntFunction<Ask> ask, int refusal) {
        for (int n : new int[] {least, most}) {
            due(call + " " + n + " is taken", ask.apply(n).of(ground.make()) != refusal, true);
        }
        for (int n : outside(least, most)) {
            refused(ground, call + " " + n, ask.apply(n), refusal);
        }
    }

    /** The first numbers outside the bounds, and far ones that would be inside if cut or wrapped round. */
    private static int[] outside(int least, int most) {
        return IntStream.of(least - 1, most + 1, LOW, HIGH, LOW + most, (1 << 8) + least, (1 << 16) + least, -256 + least)
            .filter(n -> n < least || n > most).distinct().toArray();
    }

    /** All that can be asked. The bytes of the tape come last, for they are told only by being read. */
    private static Map<String, Integer> allAnswers(HandsReturned x) {
        Map<String, Integer> all = new LinkedHashMap<>();
        for (int what : new int[] {0, 1, 2, 3, 4, 5, 20, 21, 22, 23, 24, 25, 26, 27, 28, 29}) {
            all.put("about(" + what + ")", x.about(what));
        }
        for (int h = 0; h < all.get("about(0)"); h++) {
            for (int what = 0; what < 10; what++) {
                all.put("houseOf(" + h + ", " + what + ")", x.houseOf(h, what));
            }
            for (int other = 0; other < all.get("about(0)"); other++) {
                if (other != h) {
                    all.put("owes(" + h + ", " + other + ")", x.owes(h, other));
                    all.put("oldest(" + h + ", " + other + ")", x.oldest(h, other));
                }
            }
        }
        for (int f = 0; f < all.get("about(1)"); f++) {
            for (int what = 0; what < 7; what++) {
                all.put("fieldOf(" + f + ", " + what + ")", x.fieldOf(f, what));
            }
        }
        all.put("payments()", x.payments());
        for (int i = 0; i < all.get("payments()"); i++) {
            for (int what = 0; what < 3; what++) {
                all.put("payment(" + i + ", " + what + ")", x.payment(i, what));
            }
        }
        for (int i = 0; i < 7; i++) {
            all.put("planned(" + i + ")", x.planned(i));
        }
        putCustom(all, x, "");
        all.put("custom()", x.custom());
        putCustom(all, x, " behind custom()");
        return all;
    }

    private static void putCustom(Map<String, Integer> all, HandsReturned x, String when) {
        for (int what = 0; what < 7; what++) {
            all.put("says(" + what + ")" + when, x.says(what));
        }
        all.put("fault(0)" + when, x.fault(0));
        all.put("fault(1)" + when, x.fault(1));
    }

    // ---- the grounds

    private static HandsReturned valley(int houses, int hands) {
        HandsReturned x = new HandsReturned();
        for (int i = 0; i < houses; i++) {
            x.house(hands, false);
        }
        return x;
    }

    /** Houses with nine hands, each with a field of 60 hands' days that is ready, to plant. */
    private static HandsReturned plantedValley(int houses) {
        HandsReturned x = valley(houses, 9);
        for (int h = 0; h < houses; h++) {
            x.field(h, 0, 60, 0, 0);
        }
        return x;
    }

    /** A valley in which there is some of everything; the last field isn't ready, field 3 is done. */
    private static HandsReturned busyValley() {
        HandsReturned x = new HandsReturned();
        x.house(5, false);
        x.house(3, true);
        x.house(9, false);
        x.field(0, 0, 20, 0, 500);
        x.field(1, 1, 10, 0, 900);
        x.field(2, 2, 7, 1, 100);
        x.field(1, 0, 2, 0, 50);
        x.field(0, 1, 5, 3, 70);
        x.loss(0, 5);
        x.loss(3, 20);
        custom(x, "plant 3; reap 2; lapse 5; grace 7; food 2; wage 7;");
        custom(x, "plant 3; plant");
        x.work(1, 0, 2);
        x.work(2, 1, 4);
        x.work(1, 3, 1);
        x.hire(3, 1);
        x.days(1);
        x.work(1, 0, 1);
        x.work(0, 1, 2);
        x.hire(0, 6);
        x.ill(1, 2);
        x.plan(2);
        tell(x, "carry 9; wage 1;");
        return x;
    }

    private static HandsReturned fullOfHouses() {
        HandsReturned x = busyValley();
        for (int i = 3; i < 8; i++) {
            x.house(1, false);
        }
        return x;
    }

    private static HandsReturned fullOfFields() {
        HandsReturned x = busyValley();
        for (int i = 5; i < 12; i++) {
            x.field(0, 0, 1, 0, 1);
        }
        return x;
    }

    /** As many houses and fields as can be, all fields ready. */
    private static HandsReturned allThatCanBe() {
        HandsReturned x = plantedValley(8);
        for (int f = 8; f < 12; f++) {
            x.field(f - 8, 1, 60, 0, 0);
        }
        return x;
    }

    private static HandsReturned busyOnDay(int day) {
        HandsReturned x = busyValley();
        for (int left = day - 1; left > 0; left -= 100) {
            x.days(Math.min(100, left));
        }
        return x;
    }

    /** As many debts, 28 on each day from 0 on, which lapse behind ten days. */
    private static HandsReturned valleyOfDebts(int many) {
        HandsReturned x = plantedValley(8);
        x.field(0, 0, 60, 0, 0);
        x.field(1, 0, 60, 0, 0);
        custom(x, "lapse 10;");
        int made = 0;
        for (int day = 0; made < many; day++) {
            if (day > 0) {
                x.days(1);
            }
            for (int ower = 0; ower < 7; ower++) {
                for (int worker = ower + 1; worker < 8 && made < many; worker++) {
                    x.work(worker, ower < 2 && day > 5 ? 8 + ower : ower, 1);
                    made++;
                }
            }
        }
        return x;
    }

    /** What work could change, in so few calls that a valley of debts still bears them. */
    private static int[] answersOfWork(HandsReturned x) {
        int[] all = new int[8 * 4 + 10 + 3];
        int at = 0;
        for (int h = 0; h < 8; h++) {
            for (int what = 3; what < 7; what++) {
                all[at++] = x.houseOf(h, what);
            }
        }
        for (int f = 0; f < 10; f++) {
            all[at++] = x.fieldOf(f, 2);
        }
        for (int what = 2; what < 5; what++) {
            all[at++] = x.about(what);
        }
        return all;
    }

    // ---- texts

    private static void tell(HandsReturned x, String text) {
        byte[] bytes = text.getBytes(StandardCharsets.ISO_8859_1);
        byte[] padded = Arrays.copyOf(bytes, (bytes.length + 19) / 20 * 20);
        for (int i = 0; i < padded.length; i += 20) {
            x.feed(four(padded, i), four(padded, i + 4), four(padded, i + 8), four(padded, i + 12), four(padded, i + 16));
        }
        x.end(x.about(5) - padded.length + bytes.length);
    }

    private static int four(byte[] b, int i) {
        return (b[i] & 255) << 24 | (b[i + 1] & 255) << 16 | (b[i + 2] & 255) << 8 | b[i + 3] & 255;
    }

    private static int custom(HandsReturned x, String text) {
        tell(x, text);
        return x.custom();
    }

    private static void faultDue(String text, int fault, int place) {
        HandsReturned x = new HandsReturned();
        due("custom() of '" + text + "'", custom(x, text), NONE);
        due("fault(0) of '" + text + "'", x.fault(0), fault);
        due("fault(1) of '" + text + "'", x.fault(1), place);
    }

    private static void saysDue(String text, int clauses, int what, int says) {
        HandsReturned x = new HandsReturned();
        due("custom() of '" + text + "'", custom(x, text), clauses);
        due("fault(0) of '" + text + "'", x.fault(0), 0);
        due("fault(1) of '" + text + "'", x.fault(1), NONE);
        due("says(" + what + ") of '" + text + "'", x.says(what), says);
    }

    private static boolean isLetter(int b) {
        return "abcdefghijklmnopqrstuvwxyzABCDEFGHIJKLMNOPQRSTUVWXYZ".indexOf(b) >= 0;
    }

    private static boolean isDigit(int b) {
        return "0123456789".indexOf(b) >= 0;
    }

    // ---- Terms I: days, houses, fields, losses

    private static void termsOfTheGround() {
        daysOfTheClock();
        numbersOfHouses();
        handsOfHouses();
        numbersOfFields();
        fieldsOfHouses();
        kindsAndNeedsAndValues();
        lossesOfDays();
        lossOfMoreDays();
    }

    private static void daysOfTheClock() {
        sentence("DAYS 0 .. 400, the clock's at first 0");
        HandsReturned x = valley(1, 1);
        due("the clock at first", x.about(2), 0);
        x.field(0, 0, 1, 400, 0);
        for (int i = 0; i < 4; i++) {
            x.days(100);
        }
        due("the last DAY", x.about(2), 400);
        due("work on the last DAY", x.work(0, 0, 1), 0);
        due("DONE on the last DAY", x.fieldOf(0, 5), 400);
        HandsReturned y = valley(1, 1);
        y.field(0, 0, 1, 0, 0);
        due("work on the first DAY", y.work(0, 0, 1), 0);
        due("DONE on the first DAY", y.fieldOf(0, 5), 0);
    }

    private static void numbersOfHouses() {
        sentence("HOUSES 0 .. 7");
        HandsReturned x = plantedValley(8);
        due("house 7 has hands", x.houseOf(7, 0), 9);
        due("house 7 works for house 0", x.work(7, 0, 1), 59);
        due("house 0 works for house 7", x.work(0, 7, 2), 58);
        due("house 7 owes", x.owes(7, 0), 1);
    }

    private static void handsOfHouses() {
        sentence("HANDS (1 .. 9), a WIDOW's or not");
        bounds(EdgesTest::busyValley, "HANDS", 1, 9, n -> x -> x.house(n, false), NONE);
        bounds(EdgesTest::busyValley, "HANDS of a WIDOW", 1, 9, n -> x -> x.house(n, true), NONE);
        HandsReturned x = new HandsReturned();
        x.house(1, true);
        x.house(9, false);
        due("the least HANDS", x.houseOf(0, 0), 1);
        due("the most HANDS", x.houseOf(1, 0), 9);
        due("a WIDOW's", x.houseOf(0, 1), 1);
        due("not a WIDOW's", x.houseOf(1, 1), 0);
    }

    private static void numbersOfFields() {
        sentence("FIELDS 0 .. 11");
        HandsReturned x = fullOfFields();
        due("field 11 needs", x.fieldOf(11, 2), 1);
        due("work in field 11", x.work(0, 11, 1), 0);
        due("field 12", x.work(0, 12, 1), NONE);
        due("field -1", x.work(0, -1, 1), NONE);
    }

    private static void fieldsOfHouses() {
        sentence("FIELDS: a HOUSE's");
        bounds(EdgesTest::busyValley, "a field of house", 0, 2, n -> x -> x.field(n, 0, 1, 0, 0), NONE);
        bounds(EdgesTest::fullOfHouses, "a field of house", 0, 7, n -> x -> x.field(n, 0, 1, 0, 0), NONE);
        refused(HandsReturned::new, "a field without houses", x -> x.field(0, 0, 1, 0, 0), NONE);
    }

    private static void kindsAndNeedsAndValues() {
        sentence("a KIND of work (0 plant, 1 reap, 2 carry)");
        bounds(EdgesTest::busyValley, "KIND", 0, 2, n -> x -> x.field(0, n, 1, 0, 0), NONE);
        HandsReturned y = valley(2, 9);
        custom(y, "plant 5; reap 6; carry 7;");
        for (int kind = 0, owed = 0; kind < 3; kind++) {
            y.field(0, kind, 1, 0, 0);
            y.work(1, kind, 1);
            owed += 5 + kind;
            due("owed when KIND " + kind + " is done", y.owes(0, 1), owed);
        }
        sentence("NEED (1 .. 60 hands' days)");
        bounds(EdgesTest::busyValley, "NEED", 1, 60, n -> x -> x.field(0, 0, n, 0, 0), NONE);
        sentence("READY from a DAY on");
        bounds(EdgesTest::busyValley, "READY", 0, 400, n -> x -> x.field(0, 0, 1, n, 0), NONE);
        sentence("VALUE (0 .. 10000)");
        bounds(EdgesTest::busyValley, "VALUE", 0, 10000, n -> x -> x.field(0, 0, 1, 0, n), NONE);
        HandsReturned z = valley(1, 9);
        int[][] extremes = {{0, 1, 0, 0}, {2, 60, 400, 10000}};
        for (int f = 0; f < 2; f++) {
            z.field(0, extremes[f][0], extremes[f][1], extremes[f][2], extremes[f][3]);
            for (int what = 1; what < 5; what++) {
                due("fieldOf(" + f + ", " + what + ")", z.fieldOf(f, what), extremes[f][what - 1]);
            }
        }
    }

    private static void lossesOfDays() {
        sentence("LOSS of k days late (k 0 .. 9; 0 .. 100 hundredths; at first 0)");
        bounds(EdgesTest::busyValley, "LOSS of days", 0, 9, n -> x -> x.loss(n, 50) ? 1 : 0, 0);
        bounds(EdgesTest::busyValley, "LOSS of hundredths", 0, 100, n -> x -> x.loss(3, n) ? 1 : 0, 0);
        HandsReturned x = new HandsReturned();
        for (int k = 0; k < 10; k++) {
            due("LOSS at first of " + k, x.about(20 + k), 0);
        }
        for (int late = 0; late < 10; late++) {
            due("PROCEEDS when " + late + " days late", proceedsWhenLate(late, 1000), 1000 - 10 * (late + 1));
        }
    }

    private static void lossOfMoreDays() {
        sentence("LOSS of more days that of 9");
        for (int late : new int[] {9, 10, 11, 99, 255, 256, 266, 399, 400}) {
            due("PROCEEDS when " + late + " days late", proceedsWhenLate(late, 1000), 900);
        }
    }

    /** The LOSS of k days is k + 1 hundredths. */
    private static int proceedsWhenLate(int late, int value) {
        HandsReturned x = valley(1, 1);
        for (int k = 0; k < 10; k++) {
            x.loss(k, k + 1);
        }
        x.field(0, 0, 1, 0, value);
        for (int left = late; left > 0; left -= 100) {
            x.days(Math.min(100, left));
        }
        x.work(0, 0, 1);
        return x.fieldOf(0, 6);
    }

    // ---- Terms I: the custom

    private static void termsOfTheCustom() {
        lengthOfATextEdges();
        bytesOfTokens();
        clausesOfACustom();
        numbersOfWords();
        wordsThatAreNotTold();
        faultsInTheirOrder();
        faultOfAWrongToken();
        faultOfAWordTwice();
        faultOfANumber();
    }

    private static void lengthOfATextEdges() {
        sentence("THE CUSTOM: a text of up to 200 bytes");
        saysDue("", 0, 0, 1);
        saysDue(" ".repeat(192) + "plant 7;", 1, 0, 7);
        saysDue("plant 7;" + " ".repeat(192), 1, 0, 7);
        saysDue("plant " + "0".repeat(192) + "7;", 1, 0, 7);
        faultDue(" ".repeat(199) + "@", 1, 199);
        faultDue("a".repeat(200), 1, 0);
        faultDue("1".repeat(200), 1, 0);
        faultDue(";".repeat(200), 1, 0);
        faultDue(" ".repeat(195) + "plant", 1, 200);
        HandsReturned x = new HandsReturned();
        tell(x, "plant 7;@@@@@@@@@@@@");
        x.end(8);
        due("bytes that were cut off aren't read", x.custom(), 1);
        HandsReturned z = new HandsReturned();
        tell(z, "plants 7;");
        z.end(5);
        due("a word that was cut", z.custom(), NONE);
        due("it is a WORD, and the end comes too early", z.fault(1), 5);
        HandsReturned y = new HandsReturned();
        tell(y, "plant 7777");
        y.end(7);
        due("a number that was cut", custom(y, ";"), 1);
        due("its first digit is left", y.says(0), 7);
    }

    private static void bytesOfTokens() {
        sentence("TOKENS, blanks (32) aside: letters a .. z, A .. Z, digits, ;");
        for (int b = 0; b < 256; b++) {
            String c = String.valueOf((char) b);
            boolean inside = b == 32 || isDigit(b);
            if (inside) {
                saysDue("plant" + c + "1;", 1, 0, isDigit(b) ? 10 * (b - '0') + 1 : 1);
                saysDue("plant 1" + c + ";", 1, 0, isDigit(b) ? 10 + b - '0' : 1);
            } else {
                faultDue("plant" + c + "1;", 1, isLetter(b) ? 0 : 5);
                faultDue("plant 1" + c + ";", 1, b == ';' ? 8 : 7);
            }
            if (b == 32) {
                saysDue(c + "plant 2;" + c, 1, 0, 2);
            } else {
                faultDue(c + "plant 2;", 1, 0);
                faultDue("plant 2;" + c, 1, 8);
            }
        }
        sentence("one behind the other");
        saysDue("plant1;reap2;carry3;", 3, 2, 3);
        saysDue("   plant   1   ;   reap   2   ;   ", 2, 1, 2);
        faultDue("pl ant 1;", 1, 0);
        faultDue("plant 1 1;", 1, 8);
        saysDue("plant 11;", 1, 0, 11);
        HandsReturned x = new HandsReturned();
        tell(x, " ".repeat(18) + "reap 1");
        due("tokens over two feeds", custom(x, "2;"), 1);
        due("reap over two feeds", x.says(1), 12);
    }

    private static void clausesOfACustom() {
        sentence("{CLAUSE}, CLAUSE: WORD NUMBER ;");
        StringBuilder text = new StringBuilder();
        for (int w = 0; w < 7; w++) {
            due("custom() of '" + text + "'", custom(new HandsReturned(), text.toString()), w);
            text.append(WORDS[w]).append(' ').append(MOST[w]).append(';');
        }
        due("custom() of '" + text + "'", custom(new HandsReturned(), text.toString()), 7);
        faultDue(text + "plant 1;", 2, text.length());
    }

    private static void numbersOfWords() {
        for (int w = 0; w < 7; w++) {
            String word = WORDS[w];
            int at = word.length() + 1;
            sentence(word + " (" + LEAST[w] + " .. " + MOST[w] + ")");
            saysDue(word + " " + LEAST[w] + ";", 1, w, LEAST[w]);
            saysDue(word + " " + MOST[w] + ";", 1, w, MOST[w]);
            saysDue(word + " 000" + MOST[w] + ";", 1, w, MOST[w]);
            faultDue(word + " " + (MOST[w] + 1) + ";", 3, at);
            faultDue(word + " -" + LEAST[w] + ";", 1, at);
            for (String round : new String[] {"256", "65536", "4294967296", "18446744073709551616"}) {
                java.math.BigInteger n = new java.math.BigInteger(round).add(java.math.BigInteger.ONE);
                if (n.intValue() > MOST[w] || n.bitLength() > 31) {
                    faultDue(word + " " + n + ";", 3, at);
                }
            }
            faultDue(word + " " + MOST[w] + "0;", 3, at);
            faultDue(word + " 1" + "0".repeat(190) + ";", 3, at);
        }
        sentence("lapse (1 .. 400)");
        faultDue("lapse 0;", 3, 6);
        faultDue("lapse 000;", 3, 6);
    }

    private static void wordsThatAreNotTold() {
        sentence("without: 1, without: 400, without: 0");
        for (int told = 0; told < 7; told++) {
            HandsReturned x = new HandsReturned();
            custom(x, "plant 9; reap 9; carry 9; lapse 9; grace 9; food 9; wage 9;");
            custom(x, WORDS[told] + " 7;");
            for (int w = 0; w < 7; w++) {
                due("says(" + w + ") of " + WORDS[told] + " alone", x.says(w), w == told ? 7 : WITHOUT[w]);
            }
        }
    }

    private static void faultsInTheirOrder() {
        sentence("FAULTS, the first as TOKENS are come to");
        faultDue("plant 100; @", 3, 6);
        faultDue("@ plant 100;", 1, 0);
        faultDue("plant 1; plant 100;", 2, 9);
        faultDue("plant 100; plant 1;", 3, 6);
        faultDue("plant 100", 3, 6);
        faultDue("plant 1; plant", 2, 9);
        sentence("at the TOKEN's first byte");
        faultDue("   rice 1;", 1, 3);
        faultDue("plant    100;", 3, 9);
        faultDue("plant 1;   plant 1;", 2, 11);
        sentence("(of the end at the length)");
        faultDue("plant", 1, 5);
        faultDue("plant  ", 1, 7);
        faultDue("plant 1", 1, 7);
        faultDue("plant 1  ", 1, 9);
        faultDue("plant 1;reap", 1, 12);
        faultDue("plant 1" + " ".repeat(193), 1, 200);
        sentence("of one the least");
        faultDue("plant 1; reap plant;", 1, 14);
        faultDue("plant 1 plant", 1, 8);
        faultDue("plant 1 100;", 1, 8);
        faultDue("plant 1; 100;", 1, 9);
    }

    private static void faultOfAWrongToken() {
        sentence("1 it can't stand there, or is none");
        for (String word : WORDS) {
            faultDue(word.substring(0, word.length() - 1) + " 1;", 1, 0);
            faultDue(word + "s 1;", 1, 0);
            faultDue("x" + word + " 1;", 1, 0);
            faultDue(word.toUpperCase() + " 1;", 1, 0);
            faultDue(word.substring(0, 1).toUpperCase() + word.substring(1) + " 1;", 1, 0);
            faultDue(word + ";", 1, word.length());
            faultDue(word + " " + word + " 1;", 1, word.length() + 1);
        }
        faultDue(";", 1, 0);
        faultDue("1;", 1, 0);
        faultDue("plant 1;;", 1, 8);
        faultDue("plant 1 reap 1;", 1, 8);
        faultDue("plant 1.5;", 1, 7);
        faultDue("plantreap 1;", 1, 0);
    }

    private static void faultOfAWordTwice() {
        sentence("2 a WORD for the second time");
        for (int w = 0; w < 7; w++) {
            String clause = WORDS[w] + " " + LEAST[w] + ";";
            faultDue(clause + clause, 2, clause.length());
            String other = WORDS[(w + 1) % 7] + " 1;";
            faultDue(clause + other + clause, 2, clause.length() + other.length());
            HandsReturned x = new HandsReturned();
            custom(x, clause);
            due("in a new text it is the first time", custom(x, clause), 1);
            due("behind a fault it is the first time", custom(x, clause + "@") == NONE && custom(x, clause) == 1, true);
        }
    }

    private static void faultOfANumber() {
        sentence("3 a NUMBER that isn't one of those told");
        faultDue("food 99; wage 1000;", 3, 14);
        faultDue("wage 999; food 100;", 3, 15);
        faultDue("grace 0; lapse 0;", 3, 15);
        faultDue("lapse 400; plant 400;", 3, 17);
    }

    // ---- Terms II: work

    private static void termsOfWork() {
        workInAReadyField();
        handsOnADay();
        handsWhileIll();
        handsThatAFieldNeeds();
        workInTheOwnField();
        debtsThatAreLessened();
        debtOfThisDay();
        foodBesides();
        hiredHandsOfADay();
        wagesOfHired();
        dayOnWhichItIsDone();
        daysLate();
        proceedsAreCut();
    }

    private static void workInAReadyField() {
        sentence("n hands of a HOUSE in a FIELD that is READY");
        HandsReturned x = valley(1, 9);
        x.field(0, 0, 9, 7, 0);
        x.days(6);
        due("work on the DAY before", x.work(0, 0, 1), NONE);
        due("hired on the DAY before", x.hire(0, 1), NONE);
        x.days(1);
        due("work on the DAY", x.work(0, 0, 1), 8);
        due("hired on the DAY", x.hire(0, 1), 7);
        x.days(1);
        due("work on the DAY behind", x.work(0, 0, 1), 6);
    }

    private static void handsOnADay() {
        sentence("all hands of a HOUSE on a DAY together are no more than its HANDS");
        for (int hands : new int[] {1, 5, 9}) {
            HandsReturned x = valley(2, hands);
            x.field(0, 0, 60, 0, 0);
            x.field(1, 0, 60, 0, 0);
            due("one more than its HANDS", x.work(0, 0, hands + 1), NONE);
            due("all its HANDS", x.work(0, 0, hands), 60 - hands);
            due("one more in the same field", x.work(0, 0, 1), NONE);
            due("one more in another field", x.work(0, 1, 1), NONE);
            due("the other house", x.work(1, 0, hands), 60 - 2 * hands);
            x.days(1);
            due("all its HANDS on the next DAY", x.work(0, 1, hands), 60 - hands);
        }
        HandsReturned y = plantedValley(2);
        y.work(0, 0, 4);
        y.work(0, 1, 4);
        due("two where one is left", y.work(0, 1, 2), NONE);
        due("the one that is left", y.work(0, 1, 1), 55);
    }

    private static void handsWhileIll() {
        sentence("(none, while it is ILL)");
        HandsReturned x = plantedValley(2);
        x.work(0, 0, 2);
        x.ill(0, 1);
        due("one hand while ILL", x.work(0, 0, 1), NONE);
        due("none is free", x.houseOf(0, 3), 0);
        due("others work in its field", x.work(1, 0, 1), 57);
        x.ill(0, 0);
        due("eight, two having worked", x.work(0, 0, 8), NONE);
        due("seven", x.work(0, 0, 7), 50);
        x.ill(0, 1);
        x.days(1);
        due("all hands on the next DAY", x.work(0, 0, 9), 41);
    }

    private static void handsThatAFieldNeeds() {
        sentence("all in a FIELD no more than it NEEDS");
        HandsReturned x = valley(2, 9);
        x.field(0, 0, 5, 0, 0);
        due("six where five are needed", x.work(0, 0, 6), NONE);
        due("six hired ones", x.hire(0, 6), NONE);
        due("two", x.work(1, 0, 2), 3);
        due("two hired ones", x.hire(0, 2), 1);
        due("two where one is needed", x.work(0, 0, 2), NONE);
        due("two hired where one is needed", x.hire(0, 2), NONE);
        due("the last", x.work(0, 0, 1), 0);
        due("one in a DONE field", x.work(0, 0, 1), NONE);
        due("one hired in a DONE field", x.hire(0, 1), NONE);
        HandsReturned y = plantedValley(1);
        for (int day = 0; day < 6; day++) {
            due("nine hands on day " + day, y.work(0, 0, 9), 51 - 9 * day);
            y.days(1);
        }
        due("seven where six of 60 are left", y.work(0, 0, 7), NONE);
        due("six", y.work(0, 0, 6), 0);
    }

    private static void workInTheOwnField() {
        sentence("If the FIELD is another HOUSE's, that is to owe n times the worth of the KIND");
        HandsReturned x = plantedValley(2);
        custom(x, "plant 99; food 99;");
        x.work(0, 0, 5);
        due("no DEBTS of the own field", x.about(3), 0);
        due("no FOOD of the own field", x.houseOf(0, 6) + x.houseOf(0, 5), 0);
        x.work(1, 0, 9);
        due("nine times the most worth", x.owes(0, 1), 891);
        HandsReturned y = plantedValley(2);
        custom(y, "plant 0;");
        due("work of no worth", y.work(1, 0, 9), 51);
        due("is no DEBT", y.about(3), 0);
        due("and owes nothing", y.owes(0, 1), 0);
        due("and is of no DAY", y.oldest(0, 1), NONE);
    }

    /** House 0 owes 3 units of day 0, 4 of day 1, 2 of day 2 to house 1, which has no free hands then. */
    private static HandsReturned threeDebts() {
        HandsReturned x = plantedValley(2);
        x.work(1, 0, 3);
        x.days(1);
        x.work(1, 0, 4);
        x.days(1);
        x.work(1, 0, 2);
        return x;
    }

    private static void debtsThatAreLessened() {
        sentence("first the DEBTS of the HOUSE that works to the FIELD's are lessened by as much, the oldest first");
        int[] debts = {3, 3, 3, 2, 2, 2, 2, 1, 1, 0};
        int[] days = {0, 0, 0, 1, 1, 1, 1, 2, 2, NONE};
        for (int n = 1; n <= 9; n++) {
            HandsReturned x = threeDebts();
            x.work(0, 1, n);
            due("OWES when " + n + " hands came back", x.owes(0, 1), 9 - n);
            due("DEBTS when " + n + " hands came back", x.about(3), debts[n]);
            due("the oldest when " + n + " hands came back", x.oldest(0, 1), days[n]);
            due("nothing the other way", x.owes(1, 0), 0);
        }
        HandsReturned gone = threeDebts();
        gone.work(0, 1, 3);
        custom(gone, "plant 7;");
        gone.work(0, 1, 1);
        due("a DEBT that is gone is lessened no more", gone.owes(1, 0), 1);
        HandsReturned paid = threeDebts();
        paid.even();
        paid.work(0, 1, 2);
        due("nor is one that is paid", paid.owes(1, 0), 2);
        sentence("what is left is a DEBT of the FIELD's HOUSE of this DAY");
        HandsReturned y = threeDebts();
        custom(y, "plant 10;");
        y.work(0, 1, 1);
        due("ten less nine", y.owes(1, 0), 1);
        due("of this DAY", y.oldest(1, 0), 2);
        due("no other DEBT", y.about(3), 1);
        HandsReturned z = plantedValley(3);
        z.work(1, 0, 5);
        z.work(0, 2, 3);
        due("a DEBT to another HOUSE isn't lessened", z.owes(0, 1), 5);
        due("it is a DEBT of its own", z.owes(2, 0), 3);
    }

    private static void debtOfThisDay() {
        sentence("(one with what there is of such of this DAY)");
        HandsReturned x = plantedValley(3);
        x.field(0, 1, 60, 0, 0);
        x.work(1, 0, 1);
        x.work(1, 3, 2);
        due("two fields of a HOUSE, one DEBT", x.about(3), 1);
        due("both together", x.owes(0, 1), 3);
        x.work(2, 0, 1);
        due("another HOUSE, another DEBT", x.about(3), 2);
        x.days(1);
        x.work(1, 0, 1);
        due("another DAY, another DEBT", x.about(3), 3);
        x.work(1, 0, 1);
        due("none more on that DAY", x.about(3), 3);
        due("OWES of both DAYS", x.owes(0, 1), 5);
    }

    private static void foodBesides() {
        sentence("The FIELD's HOUSE owes FOOD besides, n times food (kept by itself)");
        HandsReturned x = plantedValley(2);
        custom(x, "plant 0; food 99;");
        x.work(1, 0, 9);
        due("FOOD of work of no worth", x.houseOf(0, 6), 891);
        due("FOOD owed to it", x.houseOf(1, 5), 891);
        due("no DEBTS of it", x.about(3), 0);
        x.work(0, 1, 9);
        due("FOOD isn't lessened by work", x.houseOf(0, 6), 891);
        due("FOOD the other way", x.houseOf(0, 5), 891);
        due("NET has no FOOD", x.houseOf(0, 4), 0);
        custom(x, "lapse 1; food 0;");
        x.days(3);
        due("FOOD doesn't lapse", x.houseOf(0, 6), 891);
        x.work(1, 0, 1);
        due("food 0", x.houseOf(0, 6), 891);
        x.even();
        due("FOOD isn't paid by even()", x.houseOf(0, 6), 891);
        x.hire(0, 5);
        due("no FOOD of HIRED hands", x.houseOf(0, 6), 891);
    }

    private static void hiredHandsOfADay() {
        sentence("(all of a DAY in the valley 20 at most)");
        HandsReturned x = plantedValley(2);
        due("21 at once", x.hire(0, 21), NONE);
        due("20 at once", x.hire(0, 20), 40);
        due("one more", x.hire(0, 1), NONE);
        due("one more in another field", x.hire(1, 1), NONE);
        due("20 on this DAY", x.about(4), 20);
        x.days(1);
        due("none on the next DAY", x.about(4), 0);
        due("19 there", x.hire(0, 19), 21);
        due("two here", x.hire(1, 2), NONE);
        due("one here", x.hire(1, 1), 59);
        due("HANDS are free all the same", x.houseOf(0, 3), 9);
    }

    private static void wagesOfHired() {
        sentence("its HOUSE pays n times wage");
        HandsReturned x = plantedValley(2);
        x.hire(0, 5);
        due("without a wage", x.houseOf(0, 7), 0);
        custom(x, "wage 999;");
        x.hire(0, 15);
        due("the most wage", x.houseOf(0, 7), 14985);
        x.hire(1, 1);
        due("nothing for a refused one", x.houseOf(1, 7), 0);
        custom(x, "");
        x.days(1);
        x.hire(0, 20);
        due("what was paid stays", x.houseOf(0, 7), 14985);
        due("no DEBTS of HIRED hands", x.about(3), 0);
    }

    private static void dayOnWhichItIsDone() {
        sentence("A FIELD of which all NEED is done is DONE on that DAY");
        HandsReturned x = valley(1, 9);
        x.field(0, 0, 2, 0, 100);
        x.days(1);
        x.work(0, 0, 1);
        due("not yet", x.fieldOf(0, 5), NONE);
        due("no PROCEEDS yet", x.fieldOf(0, 6), NONE);
        due("none of its HOUSE yet", x.houseOf(0, 9), 0);
        x.days(2);
        x.work(0, 0, 1);
        due("on that DAY", x.fieldOf(0, 5), 3);
        x.days(1);
        due("it stays so", x.fieldOf(0, 5), 3);
        due("PROCEEDS of its HOUSE", x.houseOf(0, 9), 100);
    }

    private static void daysLate() {
        sentence("its days late are that DAY less READY");
        for (int ready : new int[] {0, 1, 50, 391, 399, 400}) {
            for (int late = 0; late <= 10 && ready + late <= 400; late++) {
                HandsReturned x = losingValley(new int[] {1, ready, 100});
                for (int left = ready + late; left > 0; left -= 100) {
                    x.days(Math.min(100, left));
                }
                x.work(0, 0, 1);
                due("PROCEEDS, READY on " + ready + ", " + late + " days late", x.fieldOf(0, 6), 100 - 10 * Math.min(9, late));
            }
        }
    }

    private static void proceedsAreCut() {
        sentence("PROCEEDS VALUE * (100 - LOSS, as it is then) / 100, cut");
        int[][] cases = {
            {10000, 0, 10000}, {10000, 100, 0}, {10000, 1, 9900}, {9999, 1, 9899}, {9999, 99, 99}, {1, 0, 1},
            {1, 1, 0}, {1, 100, 0}, {99, 99, 0}, {100, 99, 1}, {199, 33, 133}, {0, 0, 0}, {0, 100, 0}};
        for (int[] c : cases) {
            HandsReturned x = valley(1, 9);
            x.field(0, 0, 1, 0, c[0]);
            x.loss(0, 77);
            x.loss(0, c[1]);
            x.work(0, 0, 1);
            x.loss(0, 50);
            due("PROCEEDS of " + c[0] + " at LOSS " + c[1], x.fieldOf(0, 6), c[2]);
            due("of its HOUSE", x.houseOf(0, 9), c[2]);
        }
    }

    // ---- Terms II: days and debts that lapse

    private static void termsOfDaysAndDebts() {
        daysAreIllLess();
        lapseOfDebts();
        graceOfWidows();
        lapsedUnits();
        lapseAsItIsThen();
    }

    private static void daysAreIllLess() {
        sentence("A DAY goes by: the clock is one more; HOUSES are ILL for a day less");
        HandsReturned x = valley(3, 1);
        x.ill(0, 1);
        x.ill(1, 400);
        x.days(1);
        due("the clock", x.about(2), 1);
        due("1 less 1", x.houseOf(0, 2), 0);
        due("400 less 1", x.houseOf(1, 2), 399);
        due("not below 0", x.houseOf(2, 2), 0);
        x.days(99);
        due("400 less 100", x.houseOf(1, 2), 300);
        due("still not below 0", x.houseOf(0, 2), 0);
    }

    /** What is owed of one unit of day 0, so many days behind it. */
    private static int owedBehind(int days, String text, boolean owerIsWidow, boolean claimerIsWidow) {
        HandsReturned x = new HandsReturned();
        x.house(1, owerIsWidow);
        x.house(1, claimerIsWidow);
        x.field(0, 0, 1, 0, 0);
        custom(x, text);
        x.work(1, 0, 1);
        for (int left = days; left > 0; left -= 100) {
            x.days(Math.min(100, left));
        }
        return x.owes(0, 1);
    }

    private static void lapseOfDebts() {
        sentence("DEBTS of which the clock less their DAY is more than lapse LAPSE: they are gone");
        for (int lapse : new int[] {1, 2, 99, 100, 101, 255, 256, 398, 399}) {
            due("lapse " + lapse + " on its last DAY", owedBehind(lapse, "lapse " + lapse + ";", false, false), 1);
            due("lapse " + lapse + " a DAY later", owedBehind(lapse + 1, "lapse " + lapse + ";", false, false), 0);
        }
        due("lapse 400 on day 400", owedBehind(400, "lapse 400;", false, false), 1);
        due("without lapse on day 400", owedBehind(400, "", false, false), 1);
    }

    private static void graceOfWidows() {
        sentence("(and grace, if it is a WIDOW's that owes)");
        int[][] cases = {{1, 0}, {1, 1}, {1, 398}, {5, 7}, {398, 1}, {200, 199}};
        for (int[] c : cases) {
            String text = "lapse " + c[0] + "; grace " + c[1] + ";";
            due(text + " on the last DAY of grace", owedBehind(c[0] + c[1], text, true, false), 1);
            due(text + " a DAY later", owedBehind(c[0] + c[1] + 1, text, true, false), 0);
            due(text + " not a WIDOW's, on the last DAY", owedBehind(c[0], text, false, false), 1);
            due(text + " not a WIDOW's, a DAY later", owedBehind(c[0] + 1, text, false, false), 0);
            due(text + " owed to a WIDOW's, a DAY later", owedBehind(c[0] + 1, text, false, true), 0);
        }
        due("lapse 1; grace 400; on day 400", owedBehind(400, "lapse 1; grace 400;", true, false), 1);
        due("lapse 400; grace 400; on day 400", owedBehind(400, "lapse 400; grace 400;", true, false), 1);
        due("a WIDOW's without grace", owedBehind(2, "lapse 1;", true, true), 0);
    }

    private static void lapsedUnits() {
        sentence("8 units LAPSED that it owed");
        HandsReturned x = plantedValley(2);
        custom(x, "plant 99; lapse 1;");
        x.work(1, 0, 9);
        x.days(1);
        x.work(1, 0, 1);
        due("none yet", x.houseOf(0, 8), 0);
        x.days(1);
        due("the first", x.houseOf(0, 8), 891);
        due("one DEBT is left", x.about(3), 1);
        due("its DAY", x.oldest(0, 1), 1);
        x.days(1);
        due("both", x.houseOf(0, 8), 990);
        due("none of the other HOUSE", x.houseOf(1, 8), 0);
        x.days(100);
        due("nothing more", x.houseOf(0, 8), 990);
        HandsReturned y = threeDebts();
        y.work(0, 1, 2);
        custom(y, "lapse 2;");
        y.days(1);
        due("only what is left of a DEBT", y.houseOf(0, 8), 1);
        due("the others stay", y.owes(0, 1), 6);
        HandsReturned z = new HandsReturned();
        for (int h = 0; h < 4; h++) {
            z.house(9, h % 2 == 0);
            z.field(h, 0, 60, 0, 0);
        }
        custom(z, "lapse 1; grace 1;");
        for (int h = 0; h < 4; h++) {
            z.work((h + 1) % 4, h, 1 + h);
        }
        z.days(1);
        z.work(3, 2, 5);
        z.days(1);
        due("of the DEBTS between others two are gone", z.about(3), 3);
        int[] owed = {1, 0, 8, 0};
        int[] gone = {0, 2, 0, 4};
        for (int h = 0; h < 4; h++) {
            due("OWES of " + h, z.owes(h, (h + 1) % 4), owed[h]);
            due("the oldest of " + h, z.oldest(h, (h + 1) % 4), owed[h] == 0 ? NONE : 0);
            due("LAPSED of " + h, z.houseOf(h, 8), gone[h]);
        }
        z.days(1);
        due("the first of two is gone", z.oldest(2, 3), 1);
        due("the second is left", z.owes(2, 3), 5);
        due("the WIDOW's is gone", z.owes(0, 1), 0);
    }

    private static void lapseAsItIsThen() {
        sentence("A DAY goes by: then DEBTS LAPSE");
        HandsReturned x = plantedValley(2);
        x.work(1, 0, 1);
        x.days(50);
        custom(x, "lapse 1;");
        due("not by custom() alone", x.owes(0, 1), 1);
        due("days(0)", x.days(0), NONE);
        due("not by a refused days()", x.owes(0, 1), 1);
        custom(x, "lapse 51;");
        x.days(1);
        due("by lapse as it is then, not more", x.owes(0, 1), 1);
        x.days(1);
        due("by lapse as it is then, more", x.owes(0, 1), 0);
    }

    // ---- Terms III: payments

    private static void termsOfPayments() {
        netsOfHouses();
        fewestPayments();
        housesOfNetZero();
        mostGroups();
        leastGroups();
        payingInAGroup();
    }

    /** A valley of debts {ower, worker, units}, all of day 0. */
    private static HandsReturned indebted(int houses, int[][] debts) {
        HandsReturned x = plantedValley(houses);
        for (int[] d : debts) {
            due("work for " + Arrays.toString(d), x.work(d[1], d[0], d[2]) != NONE, true);
        }
        return x;
    }

    private static void paymentsDue(int houses, int[][] debts, int[][] payments) {
        HandsReturned x = indebted(houses, debts);
        String by = " of " + Arrays.deepToString(debts);
        due("payments()" + by, x.payments(), payments.length);
        for (int i = 0; i < payments.length; i++) {
            for (int what = 0; what < 3; what++) {
                due("payment(" + i + ", " + what + ")" + by, x.payment(i, what), payments[i][what]);
            }
        }
        for (int what = 0; what < 3; what++) {
            due("payment behind the last" + by, x.payment(payments.length, what), NONE);
        }
    }

    private static void netsOfHouses() {
        sentence("NET: what all owe to it less what it owes");
        HandsReturned x = indebted(4, new int[][] {{0, 1, 9}, {1, 2, 4}, {2, 3, 4}, {0, 3, 1}});
        int[] nets = {-10, 5, 0, 5};
        for (int h = 0; h < 4; h++) {
            due("NET of " + h, x.houseOf(h, 4), nets[h]);
        }
    }

    private static void fewestPayments() {
        sentence("PAYMENTS: of so many units from a HOUSE to another one, behind which each NET would be 0: the fewest");
        paymentsDue(2, new int[][] {}, new int[][] {});
        paymentsDue(2, new int[][] {{0, 1, 1}}, new int[][] {{0, 1, 1}});
        paymentsDue(2, new int[][] {{1, 0, 9}}, new int[][] {{1, 0, 9}});
        // Seven, the most that eight houses can need: one owes to all, or all owe to one.
        paymentsDue(8,
            new int[][] {{0, 1, 1}, {0, 2, 2}, {0, 3, 3}, {0, 4, 4}, {0, 5, 5}, {0, 6, 6}, {0, 7, 7}},
            new int[][] {{0, 1, 1}, {0, 2, 2}, {0, 3, 3}, {0, 4, 4}, {0, 5, 5}, {0, 6, 6}, {0, 7, 7}});
        paymentsDue(8,
            new int[][] {{0, 7, 1}, {1, 7, 1}, {2, 7, 1}, {3, 7, 1}, {4, 7, 1}, {5, 7, 1}, {6, 7, 1}},
            new int[][] {{0, 7, 1}, {1, 7, 1}, {2, 7, 1}, {3, 7, 1}, {4, 7, 1}, {5, 7, 1}, {6, 7, 1}});
    }

    private static void housesOfNetZero() {
        sentence("HOUSES of NET 0 aside");
        paymentsDue(3, new int[][] {{0, 1, 2}, {1, 2, 2}, {2, 0, 2}}, new int[][] {});
        paymentsDue(8, new int[][] {{0, 1, 2}, {1, 2, 2}, {2, 7, 2}}, new int[][] {{0, 7, 2}});
        paymentsDue(8, new int[][] {{7, 3, 2}, {3, 0, 2}}, new int[][] {{7, 0, 2}});
    }

    private static void mostGroups() {
        sentence("they are parted into as many GROUPS as can be, each of NETS that come to 0 together");
        // NETS -1 -1 -1 -1 +1 +1 +1 +1: four groups, the most.
        paymentsDue(8, new int[][] {{0, 7, 1}, {1, 6, 1}, {2, 5, 1}, {3, 4, 1}},
            new int[][] {{0, 4, 1}, {1, 5, 1}, {2, 6, 1}, {3, 7, 1}});
        // NETS -5 -4 +2 +3 +4: in two groups three payments, in one it would be four.
        paymentsDue(5, new int[][] {{0, 4, 4}, {0, 3, 1}, {1, 3, 2}, {1, 2, 2}},
            new int[][] {{0, 2, 2}, {0, 3, 3}, {1, 4, 4}});
        // NETS -6 -2 -1 +3 +3 +3 with 6 and 7 of NET 0: 0 3 4 and 1 2 5.
        paymentsDue(8, new int[][] {{0, 3, 1}, {0, 4, 2}, {0, 5, 3}, {1, 3, 2}, {2, 4, 1}},
            new int[][] {{0, 3, 3}, {0, 4, 3}, {1, 5, 2}, {2, 5, 1}});
    }

    private static void leastGroups() {
        sentence("of all such ways the GROUP of the least HOUSE makes the least number (2 to the power of its HOUSES, together)");
        // NETS -3 +3 +1 +2 -3: 0 1 is the number 3, 0 2 3 is 13.
        paymentsDue(5, new int[][] {{0, 1, 3}, {4, 2, 1}, {4, 3, 2}},
            new int[][] {{0, 1, 3}, {4, 2, 1}, {4, 3, 2}});
        // NETS -3 +1 +2 +3 -3: 0 1 2 is the number 7, though 0 3 has fewer houses, for it is 9.
        paymentsDue(5, new int[][] {{0, 3, 3}, {4, 1, 1}, {4, 2, 2}},
            new int[][] {{0, 1, 1}, {0, 2, 2}, {4, 3, 3}});
        sentence("then that of the least of the rest, and so on");
        // NETS -1 +1 -2 +1 +1 +2 -2: behind 0 1 the group 2 3 4 (28) comes before 2 5 (36).
        paymentsDue(7, new int[][] {{0, 1, 1}, {2, 5, 2}, {6, 3, 1}, {6, 4, 1}},
            new int[][] {{0, 1, 1}, {2, 3, 1}, {2, 4, 1}, {6, 5, 2}});
    }

    private static void payingInAGroup() {
        sentence("in a GROUP the least HOUSE with NET below 0 pays the least with NET above 0 the lesser of what the one lacks, the other wants");
        // NETS -2 -5 +6 +1: 0 lacks less than 2 wants, then 1 pays on.
        paymentsDue(4, new int[][] {{0, 2, 2}, {1, 2, 4}, {1, 3, 1}},
            new int[][] {{0, 2, 2}, {1, 2, 4}, {1, 3, 1}});
        // NETS +4 +3 -2 -5: they that pay have the higher numbers.
        paymentsDue(4, new int[][] {{3, 0, 4}, {3, 1, 1}, {2, 1, 2}},
            new int[][] {{2, 0, 2}, {3, 0, 2}, {3, 1, 3}});
        sentence("GROUPS by their least HOUSES");
        paymentsDue(4, new int[][] {{3, 0, 1}, {1, 2, 2}}, new int[][] {{3, 0, 1}, {1, 2, 2}});
    }

    // ---- Terms III: the plan

    private static void termsOfThePlan() {
        handsOfAPlan();
        fieldsOfAPlan();
        orderOfAPlan();
        lostByAPlan();
        likePlans();
    }

    private static void planDue(HandsReturned x, int hands, int lost, int... fields) {
        due("plan(" + hands + ")", x.plan(hands), lost);
        for (int i = 0; i < fields.length; i++) {
            due("planned(" + i + ") by " + hands, x.planned(i), fields[i]);
        }
        due("planned behind the last", x.planned(fields.length), NONE);
    }

    /** A valley on day 0 with a LOSS of ten hundredths for each day. */
    private static HandsReturned losingValley(int[]... fields) {
        HandsReturned x = valley(1, 9);
        for (int k = 0; k < 10; k++) {
            x.loss(k, 10 * k);
        }
        for (int[] f : fields) {
            x.field(0, 0, f[0], f[1], f[2]);
        }
        return x;
    }

    private static void handsOfAPlan() {
        sentence("by h hands a DAY (1 .. 99)");
        bounds(EdgesTest::busyValley, "plan by", 1, 99, n -> x -> x.plan(n), NONE);
        HandsReturned x = losingValley(new int[] {60, 0, 1000}, new int[] {39, 0, 1000});
        planDue(x, 99, 0, 0, 1);
        planDue(x, 98, 100, 0, 1);
        planDue(losingValley(new int[] {1, 0, 1000}, new int[] {1, 0, 1000}), 1, 100, 0, 1);
    }

    private static void fieldsOfAPlan() {
        sentence("THE PLAN of FIELDS that aren't DONE (7 at most)");
        planDue(valley(1, 9), 1, 0);
        HandsReturned x = valley(1, 9);
        for (int f = 0; f < 7; f++) {
            x.field(0, 0, 1, 0, 1);
        }
        planDue(x, 1, 0, 0, 1, 2, 3, 4, 5, 6);
        x.field(0, 0, 1, 0, 1);
        due("eight", x.plan(1), NONE);
        x.work(0, 0, 1);
        planDue(x, 1, 0, 1, 2, 3, 4, 5, 6, 7);
        for (int f = 8; f < 12; f++) {
            x.field(0, 0, 1, 0, 1);
        }
        due("eleven", x.plan(1), NONE);
        for (int f = 1; f < 5; f++) {
            x.work(0, f, 1);
        }
        planDue(x, 1, 0, 5, 6, 7, 8, 9, 10, 11);
        x.days(1);
        x.hire(5, 1);
        planDue(x, 1, 0, 6, 7, 8, 9, 10, 11);
    }

    private static void orderOfAPlan() {
        sentence("from the clock's DAY on");
        HandsReturned x = losingValley(new int[] {2, 0, 1000});
        planDue(x, 1, 100, 0);
        x.days(3);
        planDue(x, 2, 300, 0);
        planDue(x, 1, 400, 0);
        x.work(0, 0, 1);
        planDue(x, 1, 300, 0);
        HandsReturned y = losingValley(new int[] {3, 0, 900}, new int[] {2, 0, 500}, new int[] {1, 0, 100});
        // Done on days 2, 4 and 5: 180, 200 and 50.
        planDue(y, 1, 430, 0, 1, 2);
        y.work(0, 1, 2);
        planDue(y, 1, 210, 0, 2);
        sentence("hands go to the FIELDS that are READY, the first in the order first, each as many as it lacks, as far as they go");
        // Field 1 is first in the order; till it is ready on day 1 the hands are in field 0.
        planDue(losingValley(new int[] {4, 0, 100}, new int[] {2, 1, 1000}), 2, 20, 1, 0);
        // The third hand of day 0 goes on to field 1, so that it is done on day 1 and not on day 2.
        planDue(losingValley(new int[] {2, 0, 1000}, new int[] {4, 0, 100}), 3, 10, 0, 1);
        // Field 1 is done on the day before field 0 is ready: both are in time, in either order.
        planDue(losingValley(new int[] {2, 1, 100}, new int[] {2, 0, 100}), 2, 0, 0, 1);
        // A hand's day more, and field 1 keeps a hand from field 0 on day 1: each is a day late.
        planDue(losingValley(new int[] {2, 1, 100}, new int[] {3, 0, 1000}), 2, 110, 1, 0);
        // The lower a field's number, the later it is ready. Field 2 is done on day 2 wherever it stands;
        // fields 1 and 0 on days 7 and 14, or 0 and 1 on days 12 and 14.
        planDue(losingValley(new int[] {7, 6, 100}, new int[] {5, 3, 1000}, new int[] {3, 0, 5000}), 1, 1480, 1, 0, 2);
        planDue(losingValley(new int[] {7, 6, 5000}, new int[] {5, 3, 1000}, new int[] {3, 0, 100}), 1, 3920, 0, 1, 2);
        // Work that was begun waits while a field that comes first in the order is ready.
        planDue(losingValley(new int[] {3, 0, 10}, new int[] {1, 1, 5000}), 1, 3, 1, 0);
    }

    private static void lostByAPlan() {
        sentence("LOST: VALUE less PROCEEDS of all of them, together");
        HandsReturned x = losingValley(new int[] {1, 0, 1});
        x.loss(0, 1);
        planDue(x, 1, 1, 0);
        HandsReturned y = valley(1, 9);
        y.loss(9, 100);
        y.loss(8, 7);
        for (int f = 0; f < 7; f++) {
            y.field(0, 0, 60, 0, 10000);
        }
        planDue(y, 1, 70000, 0, 1, 2, 3, 4, 5, 6);
        HandsReturned z = valley(1, 9);
        z.loss(9, 100);
        z.loss(8, 7);
        z.field(0, 0, 9, 0, 100);
        planDue(z, 1, 7, 0);
        z.days(1);
        planDue(z, 1, 100, 0);
        // A plan isn't a run of days(): it may end behind the clock's last day.
        HandsReturned late = losingValley(new int[] {60, 400, 100}, new int[] {1, 400, 1000});
        planDue(late, 1, 90, 1, 0);
        for (int i = 0; i < 4; i++) {
            late.days(100);
        }
        planDue(late, 1, 90, 1, 0);
        planDue(late, 61, 0, 0, 1);
    }

    private static void likePlans() {
        sentence("The least LOST; of like ones the first by FIELDS (the lower first)");
        planDue(losingValley(new int[] {1, 0, 0}, new int[] {1, 0, 0}, new int[] {1, 0, 0}), 1, 0, 0, 1, 2);
        // Fields 0 and 2 lose nothing whenever they are done; 1 must be the first.
        planDue(losingValley(new int[] {1, 0, 0}, new int[] {1, 0, 1000}, new int[] {1, 0, 0}), 1, 0, 1, 0, 2);
        // Field 0 isn't ready till the others are done: it may come first.
        planDue(losingValley(new int[] {1, 5, 900}, new int[] {2, 0, 1000}, new int[] {1, 0, 100}), 3, 0, 0, 1, 2);
        // Like values: one of them loses a day, and by the lower first it is the higher one.
        planDue(losingValley(new int[] {1, 0, 100}, new int[] {1, 0, 100}), 1, 10, 0, 1);
    }

    // ---- Promises 1 to 9

    private static void promises1To9() {
        promise1();
        promise2();
        promise3();
        promise4();
        promise5();
        promise6();
        promise7();
        promise8();
        promise9();
    }

    private static void promise1() {
        sentence("Promise 1: No HOUSES, FIELDS, DEBTS; THE CUSTOM without CLAUSES");
        HandsReturned x = new HandsReturned();
        for (int what = 0; what < 6; what++) {
            due("about(" + what + ")", x.about(what), 0);
        }
        for (int w = 0; w < 7; w++) {
            due("says(" + w + ")", x.says(w), WITHOUT[w]);
        }
        due("house 0", x.houseOf(0, 0), NO_HOUSE);
        due("field 0", x.fieldOf(0, 0), NONE);
        due("PAYMENTS", x.payments(), 0);
        refused(HandsReturned::new, "work of none", y -> y.work(0, 0, 1), NONE);
        refused(HandsReturned::new, "hire of none", y -> y.hire(0, 1), NONE);
        refused(HandsReturned::new, "ill of none", y -> y.ill(0, 1) ? 1 : 0, 0);
        refused(HandsReturned::new, "owes of none", y -> y.owes(0, 1), NONE);
        refused(HandsReturned::new, "oldest of none", y -> y.oldest(0, 1), NONE);
        HandsReturned apart = new HandsReturned();
        Map<String, Integer> was = allAnswers(new HandsReturned());
        busyValley();
        due("calls of another object leave all as it was", allAnswers(apart).equals(was), true);
    }

    private static void promise2() {
        sentence("Promise 2: A HOUSE: its number. NONE if there are 8");
        HandsReturned x = new HandsReturned();
        for (int h = 0; h < 8; h++) {
            due("a house", x.house(1 + h, h % 2 == 0), h);
            due("a wrong one", x.house(10, false), NONE);
        }
        for (int hands : new int[] {1, 9, 0, 10}) {
            refused(EdgesTest::fullOfHouses, "the ninth house of hands " + hands, y -> y.house(hands, true), NONE);
        }
    }

    private static void promise3() {
        sentence("Promise 3: A FIELD: its number. NONE if there are 12");
        HandsReturned x = valley(1, 1);
        for (int f = 0; f < 12; f++) {
            due("a field", x.field(0, f % 3, 1 + f, f, f), f);
            due("a wrong one", x.field(0, 3, 1, 0, 0), NONE);
        }
        refused(EdgesTest::fullOfFields, "the thirteenth field", y -> y.field(0, 0, 1, 0, 0), NONE);
        HandsReturned done = valley(1, 9);
        for (int f = 0; f < 12; f++) {
            done.field(0, 0, 1, 0, 0);
        }
        done.work(0, 0, 1);
        due("a DONE field is still one of 12", done.field(0, 0, 1, 0, 0), NONE);
    }

    private static void promise4() {
        sentence("Promise 4: LOSS: true. False for others");
        HandsReturned x = new HandsReturned();
        int[][] taken = {{0, 0}, {0, 100}, {9, 0}, {9, 100}};
        for (int[] t : taken) {
            due("loss" + Arrays.toString(t), x.loss(t[0], t[1]), true);
            due("told by about()", x.about(20 + t[0]), t[1]);
        }
        int[][] others = {{-1, 0}, {10, 100}, {0, -1}, {9, 101}, {-1, -1}, {10, 101}};
        for (int[] o : others) {
            refused(EdgesTest::busyValley, "loss" + Arrays.toString(o), y -> y.loss(o[0], o[1]) ? 1 : 0, 0);
        }
    }

    private static void promise5() {
        sentence("Promise 5: Twenty bytes come behind the tape, the highest of a first: how many it has");
        for (int place = 0; place < 40; place++) {
            HandsReturned x = new HandsReturned();
            tell(x, " ".repeat(place) + "\u00ff" + " ".repeat(39 - place));
            x.custom();
            due("a byte of 255 is at its place", x.fault(1), place);
        }
        HandsReturned y = new HandsReturned();
        for (int n = 20; n <= 200; n += 20) {
            due("feed up to " + n, y.feed(LOW, HIGH, -1, 0, 1), n);
        }
        sentence("Promise 5: NONE, and none come, if there would be more than 200");
        for (int n : new int[] {181, 182, 199, 200}) {
            refused(() -> tapeOf(n), "feed behind " + n, z -> z.feed(0x40404040, 0x40404040, 0x40404040, 0x40404040, 0x40404040), NONE);
        }
        due("feed behind 180", tapeOf(180).feed(0, 0, 0, 0, 0), 200);
        due("feed behind 179", tapeOf(179).feed(0, 0, 0, 0, 0), 199);
        HandsReturned z = tapeOf(200);
        z.feed(0, 0, 0, 0, 0);
        z.custom();
        due("feed behind custom()", z.feed(0, 0, 0, 0, 0), 20);
    }

    /** A busy valley with so many bytes on its tape, the last ones of them a clause. */
    private static HandsReturned tapeOf(int bytes) {
        HandsReturned x = busyValley();
        x.end(0);
        tell(x, " ".repeat(bytes - 8) + "carry 5;");
        return x;
    }

    private static void promise6() {
        sentence("Promise 6: The tape has its first n bytes alone: n");
        for (int n : new int[] {0, 1, 19, 20, 199, 200}) {
            HandsReturned x = tapeOf(200);
            due("end(" + n + ")", x.end(n), n);
            due("bytes of the tape", x.about(5), n);
            due("the same again", x.end(n), n);
        }
        sentence("Promise 6: NONE, and nothing is done, if it has not so many, or n is below 0");
        bounds(EdgesTest::busyValley, "end", 0, 16, n -> x -> x.end(n), NONE);
        bounds(() -> tapeOf(200), "end", 0, 200, n -> x -> x.end(n), NONE);
        bounds(HandsReturned::new, "end of an empty tape", 0, 0, n -> x -> x.end(n), NONE);
        HandsReturned x = tapeOf(100);
        x.end(50);
        due("bytes that are cut off don't come back", x.end(51), NONE);
    }

    private static void promise7() {
        sentence("Promise 7: The tape (empty then) becomes THE CUSTOM: how many CLAUSES");
        HandsReturned x = busyValley();
        due("custom()", x.custom(), 2);
        due("the tape is empty", x.about(5), 0);
        due("carry is told", x.says(2), 9);
        due("of an empty tape", x.custom(), 0);
        due("carry isn't told", x.says(2), 1);
        sentence("Promise 7: NONE: it has a FAULT, the former one stays");
        String[] faulty = {"plant 9; reap 9; carry", "plant 9; plant 9;", "plant 9; reap 100;", "@", "plant 9"};
        for (String text : faulty) {
            HandsReturned y = new HandsReturned();
            custom(y, "plant 2; reap 3; carry 4; lapse 5; grace 6; food 7; wage 8;");
            due("custom() of '" + text + "'", custom(y, text), NONE);
            due("the tape is empty then too", y.about(5), 0);
            for (int w = 0; w < 7; w++) {
                due("says(" + w + ") stays", y.says(w), 2 + w);
            }
            due("nothing of it is left for the next", custom(y, "wage 1;"), 1);
            due("reap isn't told", y.says(1), 1);
        }
    }

    private static void promise8() {
        sentence("Promise 8: NONE ahead of any");
        HandsReturned x = new HandsReturned();
        tell(x, "@");
        for (int what : new int[] {0, 1, 2, -1, LOW, HIGH}) {
            due("fault(" + what + ") ahead of any", x.fault(what), NONE);
        }
        sentence("Promise 8: Of the latest custom(): 0 its FAULT (0 without), 1 its place (NONE without)");
        x.custom();
        due("its FAULT", x.fault(0), 1);
        due("its place", x.fault(1), 0);
        x.feed(0, 0, 0, 0, 0);
        x.end(0);
        due("it stays till the next custom()", x.fault(0), 1);
        x.custom();
        due("without", x.fault(0), 0);
        due("no place", x.fault(1), NONE);
        sentence("Promise 8: NONE for others");
        for (int what : outside(0, 1)) {
            refused(EdgesTest::busyValley, "fault(" + what + ")", y -> y.fault(what), NONE);
        }
    }

    private static void promise9() {
        sentence("Promise 9: 0 plant .. 6 wage. NONE for others");
        bounds(EdgesTest::busyValley, "says", 0, 6, n -> x -> x.says(n), NONE);
        HandsReturned x = new HandsReturned();
        tell(x, "plant 5;");
        due("a tape that isn't read yet", x.says(0), 1);
    }

    // ---- Promises 10 to 13

    private static void promises10To13() {
        promise10();
        promise11();
        promise11WithManyDebts();
        promise12();
        promise13();
    }

    private static void promise10() {
        sentence("Promise 10: A HOUSE is ILL for so many days (0 .. 400)");
        bounds(EdgesTest::busyValley, "ill for days", 0, 400, n -> x -> x.ill(0, n) ? 1 : 0, 0);
        sentence("Promise 10: the clock's the first");
        for (int days : new int[] {1, 2, 100, 399}) {
            HandsReturned x = plantedValley(1);
            x.ill(0, days);
            for (int left = days - 1; left > 0; left -= 100) {
                x.days(Math.min(100, left));
            }
            due("work on the last of " + days, x.work(0, 0, 1), NONE);
            x.days(1);
            due("work behind " + days, x.work(0, 0, 1), 59);
        }
        HandsReturned y = plantedValley(1);
        y.ill(0, 5);
        y.ill(0, 2);
        due("fewer days then", y.houseOf(0, 2), 2);
        y.ill(0, 7);
        due("more days then", y.houseOf(0, 2), 7);
        due("a wrong number", y.ill(0, 401), false);
        due("it stays", y.houseOf(0, 2), 7);
        sentence("Promise 10: False for others");
        bounds(EdgesTest::busyValley, "ill of house", 0, 2, n -> x -> x.ill(n, 1) ? 1 : 0, 0);
    }

    private static void promise11() {
        sentence("Promise 11: NONE: no such ones");
        bounds(EdgesTest::readyAgain, "work of house", 0, 2, n -> x -> x.work(n, 0, 1), NONE);
        bounds(() -> plantedValley(3), "work in field", 0, 2, n -> x -> x.work(2, n, 1), NONE);
        bounds(EdgesTest::allThatCanBe, "work of house", 0, 7, n -> x -> x.work(n, 11, 1), NONE);
        bounds(EdgesTest::allThatCanBe, "work in field", 0, 11, n -> x -> x.work(7, n, 1), NONE);
        sentence("Promise 11: NONE: n below 1, too many");
        bounds(EdgesTest::readyAgain, "work of n", 1, 5, n -> x -> x.work(0, 0, n), NONE);
        bounds(EdgesTest::readyAgain, "work of n where 4 are needed", 1, 4, n -> x -> x.work(2, 1, n), NONE);
        refused(EdgesTest::busyValley, "work of a house that is ILL", x -> x.work(1, 0, 1), NONE);
        refused(EdgesTest::busyValley, "work of more than are free", x -> x.work(0, 0, 4), NONE);
        refused(EdgesTest::busyValley, "work in a DONE field", x -> x.work(0, 3, 1), NONE);
        sentence("Promise 11: NONE: not READY");
        refused(EdgesTest::busyValley, "work in a field that isn't READY", x -> x.work(0, 4, 1), NONE);
        refused(EdgesTest::busyValley, "another's in a field that isn't READY", x -> x.work(2, 4, 1), NONE);
    }

    /** The busy valley two days on: all hands are free, no house is ill, fields 0 to 2 are ready and not done. */
    private static HandsReturned readyAgain() {
        HandsReturned x = busyValley();
        x.days(2);
        x.ill(1, 0);
        return x;
    }

    private static void promise11WithManyDebts() {
        sentence("Promise 11: NONE: there are 300 DEBTS");
        HandsReturned x = valleyOfDebts(299);
        due("DEBTS", x.about(3), 299);
        due("work with 299 DEBTS", x.work(7, 5, 1) != NONE, true);
        due("it makes the last", x.about(3), 300);
        int[] was = answersOfWork(x);
        due("work that makes a DEBT", x.work(7, 6, 1), NONE);
        due("work that adds to a DEBT of this DAY", x.work(7, 5, 1), NONE);
        due("work that lessens DEBTS", x.work(0, 7, 1), NONE);
        due("work in the own field", x.work(7, 7, 1), NONE);
        due("all is as it was", Arrays.equals(answersOfWork(x), was), true);
        due("HIRED hands come all the same", x.hire(7, 1), 59);
        HandsReturned y = valleyOfDebts(300);
        due("work with 300 DEBTS", y.work(7, 7, 1), NONE);
        y.days(1);
        due("DEBTS when those of a DAY lapsed", y.about(3), 272);
        due("work then", y.work(7, 7, 1), 59);
        HandsReturned z = valleyOfDebts(300);
        due("even()", z.even(), 300);
        due("work behind even()", z.work(7, 7, 1), 59);
    }

    private static void promise12() {
        sentence("Promise 12: NONE: no such FIELD");
        bounds(() -> plantedValley(3), "hire for field", 0, 2, n -> x -> x.hire(n, 1), NONE);
        bounds(EdgesTest::allThatCanBe, "hire for field", 0, 11, n -> x -> x.hire(n, 1), NONE);
        sentence("Promise 12: NONE: n below 1, too many");
        bounds(EdgesTest::busyValley, "hire where 11 are needed", 1, 11, n -> x -> x.hire(0, n), NONE);
        bounds(EdgesTest::busyValley, "hire where 4 are needed", 1, 4, n -> x -> x.hire(1, n), NONE);
        bounds(() -> plantedValley(2), "hire of 20", 1, 20, n -> x -> x.hire(0, n), NONE);
        bounds(EdgesTest::nineteenHired, "hire when 19 are", 1, 1, n -> x -> x.hire(1, n), NONE);
        refused(EdgesTest::busyValley, "hire for a DONE field", x -> x.hire(3, 1), NONE);
        sentence("Promise 12: NONE: not READY");
        refused(EdgesTest::busyValley, "hire for a field that isn't READY", x -> x.hire(4, 1), NONE);
    }

    private static HandsReturned nineteenHired() {
        HandsReturned x = plantedValley(2);
        x.hire(0, 19);
        return x;
    }

    private static void promise13() {
        sentence("Promise 13: n DAYS go by (1 .. 100): the clock. NONE for others");
        bounds(EdgesTest::busyValley, "days", 1, 100, n -> x -> x.days(n), NONE);
        due("the clock", busyValley().days(100), 101);
        leavesAll("days(1) five times", oneByOne(5), inOne(5));
        leavesAll("days(1) a hundred times", oneByOne(100), inOne(100));
        sentence("Promise 13: NONE beyond 400");
        bounds(() -> busyOnDay(301), "days from 301", 1, 99, n -> x -> x.days(n), NONE);
        bounds(() -> busyOnDay(399), "days from 399", 1, 1, n -> x -> x.days(n), NONE);
        due("days(100) from 300", busyOnDay(300).days(100), 400);
        for (int n : new int[] {1, 2, 100}) {
            refused(() -> busyOnDay(400), "days(" + n + ") from 400", x -> x.days(n), NONE);
        }
    }

    private static HandsReturned oneByOne(int days) {
        HandsReturned x = busyValley();
        for (int i = 0; i < days; i++) {
            x.days(1);
        }
        return x;
    }

    private static HandsReturned inOne(int days) {
        HandsReturned x = busyValley();
        x.days(days);
        return x;
    }

    // ---- Promises 14 to 23

    private static void promises14To23() {
        promise14();
        promise15();
        promises16And17();
        promises18And19();
        promise20();
        promise21();
        promise22();
        promise23();
    }

    private static void promise14() {
        sentence("Promise 14: -1000000 for others");
        bounds(EdgesTest::busyValley, "houseOf house", 0, 2, n -> x -> x.houseOf(n, 0), NO_HOUSE);
        bounds(EdgesTest::fullOfHouses, "houseOf house", 0, 7, n -> x -> x.houseOf(n, 9), NO_HOUSE);
        bounds(EdgesTest::busyValley, "houseOf what", 0, 9, n -> x -> x.houseOf(0, n), NO_HOUSE);
        refused(EdgesTest::busyValley, "houseOf(3, 10)", x -> x.houseOf(3, 10), NO_HOUSE);
        sentence("Promise 14: 3 hands that are free on this DAY");
        HandsReturned x = plantedValley(1);
        due("all at first", x.houseOf(0, 3), 9);
        x.work(0, 0, 9);
        due("none then", x.houseOf(0, 3), 0);
        x.days(1);
        due("all on the next DAY", x.houseOf(0, 3), 9);
        x.work(0, 0, 10);
        due("all when it was refused", x.houseOf(0, 3), 9);
    }

    private static void promise15() {
        sentence("Promise 15: 5 the DAY on which it was DONE (NONE), 6 PROCEEDS (NONE)");
        HandsReturned x = busyValley();
        due("not DONE", x.fieldOf(0, 5), NONE);
        due("no PROCEEDS", x.fieldOf(0, 6), NONE);
        due("DONE on the first DAY", x.fieldOf(3, 5), 0);
        due("its PROCEEDS", x.fieldOf(3, 6), 47);
        sentence("Promise 15: NONE for others");
        bounds(EdgesTest::busyValley, "fieldOf field", 0, 4, n -> y -> y.fieldOf(n, 0), NONE);
        bounds(EdgesTest::fullOfFields, "fieldOf field", 0, 11, n -> y -> y.fieldOf(n, 4), NONE);
        bounds(EdgesTest::busyValley, "fieldOf what", 0, 6, n -> y -> y.fieldOf(3, n), NONE);
        refused(EdgesTest::busyValley, "fieldOf(5, 7)", y -> y.fieldOf(5, 7), NONE);
    }

    private static void promises16And17() {
        sentence("Promise 16: OWES. NONE: no such HOUSES, or the same");
        bounds(EdgesTest::busyValley, "owes of", 0, 1, n -> x -> x.owes(n, 2), NONE);
        bounds(EdgesTest::busyValley, "owes to", 1, 2, n -> x -> x.owes(0, n), NONE);
        bounds(EdgesTest::fullOfHouses, "owes of", 0, 6, n -> x -> x.owes(n, 7), NONE);
        refused(EdgesTest::busyValley, "owes(3, 2)", x -> x.owes(3, 2), NONE);
        refused(EdgesTest::fullOfHouses, "owes(8, 7)", x -> x.owes(8, 7), NONE);
        for (int h = 0; h < 8; h++) {
            int same = h;
            refused(EdgesTest::fullOfHouses, "owes(" + h + ", " + h + ")", x -> x.owes(same, same), NONE);
        }
        due("owes nothing", busyValley().owes(2, 0), 0);
        sentence("Promise 17: The DAY of the oldest DEBT. NONE without, and for others");
        HandsReturned x = plantedValley(8);
        x.work(7, 0, 1);
        due("of the first DAY", x.oldest(0, 7), 0);
        due("without", x.oldest(7, 0), NONE);
        for (int h : outside(0, 7)) {
            due("oldest(" + h + ", 7)", x.oldest(h, 7), NONE);
            due("oldest(0, " + h + ")", x.oldest(0, h), NONE);
        }
        for (int h = 0; h < 8; h++) {
            due("oldest(" + h + ", " + h + ")", x.oldest(h, h), NONE);
        }
        x.even();
        due("without, behind even()", x.oldest(0, 7), NONE);
        for (int i = 0; i < 4; i++) {
            x.days(100);
        }
        x.work(7, 0, 1);
        due("of the last DAY", x.oldest(0, 7), 400);
    }

    private static void promises18And19() {
        sentence("Promise 18: How many PAYMENTS");
        due("without HOUSES", new HandsReturned().payments(), 0);
        due("without DEBTS", plantedValley(8).payments(), 0);
        HandsReturned y = indebted(2, new int[][] {{0, 1, 3}});
        due("of one DEBT", y.payments(), 1);
        y.work(0, 1, 3);
        due("when it was returned", y.payments(), 0);
        sentence("Promise 19: 0 who pays, 1 to whom, 2 units. NONE if there is none such");
        Ground three = () -> indebted(4, new int[][] {{0, 1, 1}, {0, 2, 2}, {0, 3, 3}});
        bounds(three, "payment i", 0, 2, n -> x -> x.payment(n, 2), NONE);
        bounds(three, "payment what", 0, 2, n -> x -> x.payment(2, n), NONE);
        refused(HandsReturned::new, "payment(0, 0) of none", x -> x.payment(0, 0), NONE);
        HandsReturned z = three.make();
        due("payment() without payments() before", z.payment(2, 2), 3);
        z.work(0, 3, 3);
        due("payment() when a DEBT was returned", z.payment(2, 2), NONE);
    }

    private static void promise20() {
        sentence("Promise 20: All PAYMENTS are made: no DEBTS any more: how many there were");
        due("of no DEBTS", plantedValley(2).even(), 0);
        HandsReturned x = threeDebts();
        due("three DEBTS, one PAYMENT", x.even(), 3);
        due("no DEBTS", x.about(3), 0);
        due("no PAYMENTS", x.payments(), 0);
        due("OWES nothing", x.owes(0, 1), 0);
        due("NET", x.houseOf(0, 4), 0);
        due("NET of the other", x.houseOf(1, 4), 0);
        due("nothing LAPSED", x.houseOf(0, 8), 0);
        due("even() again", x.even(), 0);
        HandsReturned ring = indebted(3, new int[][] {{0, 1, 2}, {1, 2, 2}, {2, 0, 2}});
        due("three DEBTS, no PAYMENT", ring.even(), 3);
        due("no DEBTS of the ring", ring.about(3), 0);
        ring.work(1, 0, 1);
        due("a new DEBT is the only one", ring.about(3), 1);
    }

    private static void promise21() {
        sentence("Promise 21: NONE: others, or more than 7 FIELDS aren't DONE");
        refused(EdgesTest::fullOfFields, "plan(1) of eleven", x -> x.plan(1), NONE);
        refused(() -> fieldsThatWait(8), "plan(99) of eight", x -> x.plan(99), NONE);
        refused(() -> fieldsThatWait(8), "plan(0) of eight", x -> x.plan(0), NONE);
        due("plan(99) of seven", fieldsThatWait(7).plan(99), 0);
        HandsReturned asked = busyValley();
        HandsReturned other = busyValley();
        other.plan(9);
        other.plan(2);
        leavesAll("plans", other, asked);
    }

    /** So many fields that aren't done, and a plan that was told when there was one of them. */
    private static HandsReturned fieldsThatWait(int many) {
        HandsReturned x = valley(1, 9);
        x.field(0, 0, 1, 0, 5);
        x.plan(1);
        for (int f = 1; f < many; f++) {
            x.field(0, 0, 1, 0, 5);
        }
        return x;
    }

    private static void promise22() {
        sentence("Promise 22: The i-th FIELD of the latest plan() that told a number");
        due("ahead of any", plantedValley(2).planned(0), NONE);
        HandsReturned x = fieldsThatWait(7);
        due("a FIELD that came later isn't in it", x.planned(1), NONE);
        x.plan(1);
        due("the seventh", x.planned(6), 6);
        x.field(0, 0, 1, 0, 5);
        due("of eight", x.plan(1), NONE);
        due("by too many hands", x.plan(100), NONE);
        due("the seventh stays", x.planned(6), 6);
        for (int f = 0; f < 8; f++) {
            x.work(0, f, 1);
        }
        due("the seventh stays when it is DONE", x.planned(6), 6);
        due("of none", x.plan(1), 0);
        due("none of them", x.planned(0), NONE);
        sentence("Promise 22: NONE if there is none such");
        Ground seven = () -> {
            HandsReturned y = fieldsThatWait(7);
            y.plan(1);
            return y;
        };
        bounds(seven, "planned", 0, 6, n -> y -> y.planned(n), NONE);
    }

    private static void promise23() {
        sentence("Promise 23: 0 HOUSES .. 5 bytes of the tape. NONE for others");
        bounds(EdgesTest::busyValley, "about", 0, 5, n -> x -> x.about(n), NONE);
        for (int what = 6; what < 20; what++) {
            due("about(" + what + ")", busyValley().about(what), NONE);
        }
        sentence("Promise 23: 20 + k: LOSS of k days. NONE for others");
        bounds(EdgesTest::busyValley, "about", 20, 29, n -> x -> x.about(n), NONE);
        HandsReturned full = fullOfFields();
        due("FIELDS, the most", full.about(1), 12);
        due("HOUSES, the most", fullOfHouses().about(0), 8);
        due("bytes, the most", tapeOf(200).about(5), 200);
        due("HIRED hands", nineteenHired().about(4), 19);
    }
}
