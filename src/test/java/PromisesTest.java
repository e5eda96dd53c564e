import java.nio.charset.StandardCharsets;
import java.util.Arrays;

/** Goes through the promises of the document one by one: ordinary inputs, edges, wrong inputs. */
public final class PromisesTest {
    private static final int NONE = -1;
    private static final int NO_HOUSE = -1000000;
    private static final int LOW = Integer.MIN_VALUE;
    private static final int HIGH = Integer.MAX_VALUE;

    private static int wrong = 0;
    private static int promise = 0;

    public static void main(String[] args) {
        newObject();
        house();
        field();
        loss();
        feed();
        end();
        custom();
        fault();
        says();
        ill();
        work();
        workOwed();
        workAtThreeHundredDebts();
        hire();
        days();
        lapses();
        houseOf();
        fieldOf();
        owes();
        oldest();
        payments();
        groups();
        even();
        plan();
        planned();
        about();
        System.out.println(wrong == 0 ? "all promises hold" : wrong + " answers are not as due");
        if (wrong != 0) {
            System.exit(1);
        }
    }

    private static void due(String call, long got, long want) {
        if (got != want) {
            wrong++;
            System.out.println("promise " + promise + ": " + call + " answered " + got + ", due is " + want);
        }
    }

    private static void due(String call, boolean got, boolean want) {
        due(call, got ? 1 : 0, want ? 1 : 0);
    }

    /** Feeds a text and cuts the tape to it. */
    private static void tell(HandsReturned x, String text) {
        byte[] bytes = text.getBytes(StandardCharsets.ISO_8859_1);
        byte[] padded = Arrays.copyOf(bytes, (bytes.length + 19) / 20 * 20);
        for (int i = 0; i < padded.length; i += 20) {
            x.feed(four(padded, i), four(padded, i + 4), four(padded, i + 8), four(padded, i + 12), four(padded, i + 16));
        }
        x.end(bytes.length);
    }

    private static int four(byte[] b, int i) {
        return (b[i] & 255) << 24 | (b[i + 1] & 255) << 16 | (b[i + 2] & 255) << 8 | b[i + 3] & 255;
    }

    private static int custom(HandsReturned x, String text) {
        tell(x, text);
        return x.custom();
    }

    private static HandsReturned valley(int houses, int hands) {
        HandsReturned x = new HandsReturned();
        for (int i = 0; i < houses; i++) {
            x.house(hands, false);
        }
        return x;
    }

    private static void newObject() {
        promise = 1;
        HandsReturned x = new HandsReturned();
        for (int what = 0; what <= 5; what++) {
            due("about(" + what + ")", x.about(what), 0);
        }
        int[] without = {1, 1, 1, 400, 0, 0, 0};
        for (int what = 0; what < 7; what++) {
            due("says(" + what + ")", x.says(what), without[what]);
        }
        due("payments()", x.payments(), 0);
        due("payment(0, 0)", x.payment(0, 0), NONE);
        due("planned(0)", x.planned(0), NONE);
        due("even()", x.even(), 0);
        due("plan(1)", x.plan(1), 0);
        due("houseOf(0, 0)", x.houseOf(0, 0), NO_HOUSE);
        due("fieldOf(0, 0)", x.fieldOf(0, 0), NONE);
        due("NONE", HandsReturned.NONE, NONE);
    }

    private static void house() {
        promise = 2;
        HandsReturned x = new HandsReturned();
        for (int hands : new int[] {0, 10, -1, LOW, HIGH}) {
            due("house(" + hands + ")", x.house(hands, true), NONE);
        }
        due("none made", x.about(0), 0);
        for (int i = 0; i < 8; i++) {
            due("house " + i, x.house(i == 0 ? 9 : i, i % 2 == 1), i);
        }
        due("the ninth", x.house(1, false), NONE);
        due("eight houses", x.about(0), 8);
        due("hands of 0", x.houseOf(0, 0), 9);
        due("hands of 1", x.houseOf(1, 0), 1);
        due("widow of 1", x.houseOf(1, 1), 1);
        due("widow of 2", x.houseOf(2, 1), 0);
    }

    private static void field() {
        promise = 3;
        HandsReturned x = valley(1, 1);
        int[][] wrongOnes = {
            {1, 0, 1, 0, 0}, {-1, 0, 1, 0, 0}, {LOW, 0, 1, 0, 0}, {HIGH, 0, 1, 0, 0},
            {0, -1, 1, 0, 0}, {0, 3, 1, 0, 0}, {0, 0, 0, 0, 0}, {0, 0, 61, 0, 0},
            {0, 0, 1, -1, 0}, {0, 0, 1, 401, 0}, {0, 0, 1, 0, -1}, {0, 0, 1, 0, 10001}};
        for (int[] f : wrongOnes) {
            due("field" + Arrays.toString(f), x.field(f[0], f[1], f[2], f[3], f[4]), NONE);
        }
        due("none made", x.about(1), 0);
        due("the most of all", x.field(0, 2, 60, 400, 10000), 0);
        for (int i = 1; i < 12; i++) {
            due("field " + i, x.field(0, 0, 1, 0, 0), i);
        }
        due("the thirteenth", x.field(0, 0, 1, 0, 0), NONE);
        due("twelve fields", x.about(1), 12);
    }

    private static void loss() {
        promise = 4;
        HandsReturned x = new HandsReturned();
        int[][] wrongOnes = {{-1, 0}, {10, 0}, {0, -1}, {0, 101}, {LOW, 0}, {HIGH, HIGH}};
        for (int[] l : wrongOnes) {
            due("loss" + Arrays.toString(l), x.loss(l[0], l[1]), false);
        }
        for (int k = 0; k <= 9; k++) {
            due("loss at first", x.about(20 + k), 0);
            due("loss(" + k + ")", x.loss(k, 100 - k), true);
            due("loss told", x.about(20 + k), 100 - k);
        }
        due("loss again", x.loss(3, 0), true);
        due("loss told again", x.about(23), 0);
    }

    private static void feed() {
        promise = 5;
        HandsReturned x = new HandsReturned();
        for (int i = 1; i <= 10; i++) {
            due("feed " + i, x.feed(1, 2, 3, 4, 5), 20 * i);
        }
        due("the eleventh", x.feed(1, 2, 3, 4, 5), NONE);
        due("none came", x.about(5), 200);
        x.end(181);
        due("one byte too many", x.feed(0, 0, 0, 0, 0), NONE);
        due("none came", x.about(5), 181);
        x.end(180);
        due("up to 200", x.feed(0, 0, 0, 0, 0), 200);
        // The order of the bytes: "wage" spelled over a and b, its number in e's lowest byte.
        HandsReturned y = new HandsReturned();
        y.feed(0x20202077, 0x61676520, 0x20202020, 0x20202020, 0x20202037);
        y.feed(0x3b202020, 0x20202020, 0x20202020, 0x20202020, 0x20202020);
        due("custom() of the bytes", y.custom(), 1);
        due("its wage", y.says(6), 7);
        HandsReturned z = new HandsReturned();
        z.feed(0xff202020, 0, 0, 0, 0);
        due("a byte of 255", z.custom(), NONE);
        due("its place", z.fault(1), 0);
    }

    private static void end() {
        promise = 6;
        HandsReturned x = new HandsReturned();
        due("end(0) of none", x.end(0), 0);
        due("end(1) of none", x.end(1), NONE);
        x.feed(0, 0, 0, 0, 0);
        due("end(21)", x.end(21), NONE);
        due("end(-1)", x.end(-1), NONE);
        due("end(LOW)", x.end(LOW), NONE);
        due("end(HIGH)", x.end(HIGH), NONE);
        due("nothing is done", x.about(5), 20);
        due("end(20)", x.end(20), 20);
        due("end(7)", x.end(7), 7);
        due("end(8)", x.end(8), NONE);
        due("seven bytes", x.about(5), 7);
    }

    private static void custom() {
        promise = 7;
        HandsReturned x = new HandsReturned();
        due("all words", custom(x, "wage 999;food 99;grace 400;lapse 400;carry 99;reap 98;plant 97;"), 7);
        due("the tape is empty", x.about(5), 0);
        int[] told = {97, 98, 99, 400, 400, 99, 999};
        for (int w = 0; w < 7; w++) {
            due("says(" + w + ")", x.says(w), told[w]);
        }
        due("a fault", custom(x, "plant 1; reap"), NONE);
        due("the tape is empty", x.about(5), 0);
        due("the former stays", x.says(0), 97);
        due("other words are without", custom(x, "  reap007 ;  "), 1);
        due("reap", x.says(1), 7);
        due("plant", x.says(0), 1);
        due("wage", x.says(6), 0);
        due("an empty tape", x.custom(), 0);
        due("reap without", x.says(1), 1);
        due("blanks alone", custom(x, "     "), 0);
        due("many zeros", custom(x, "lapse " + "0".repeat(190) + "12;"), 1);
        due("lapse", x.says(3), 12);
    }

    private static void faultDue(String text, int kind, int place) {
        HandsReturned x = new HandsReturned();
        due("custom() of '" + text + "'", custom(x, text), NONE);
        due("fault(0) of '" + text + "'", x.fault(0), kind);
        due("fault(1) of '" + text + "'", x.fault(1), place);
    }

    private static void fault() {
        promise = 8;
        HandsReturned x = new HandsReturned();
        due("fault(0) ahead of any", x.fault(0), NONE);
        due("fault(1) ahead of any", x.fault(1), NONE);
        faultDue("plant", 1, 5);
        faultDue("plant   ", 1, 8);
        faultDue("plant 5", 1, 7);
        faultDue("plant 5 reap", 1, 8);
        faultDue("plant reap", 1, 6);
        faultDue("plant plant", 1, 6);
        faultDue("plant ;", 1, 6);
        faultDue("plant 5 5;", 1, 8);
        faultDue(";", 1, 0);
        faultDue("5;", 1, 0);
        faultDue("plant 1;;", 1, 8);
        faultDue(" Plant 1;", 1, 1);
        faultDue("plan 1;", 1, 0);
        faultDue("plants 1;", 1, 0);
        faultDue("plantreap 1;", 1, 0);
        for (String letter : new String[] {"a", "z", "A", "Z"}) {
            faultDue("plant" + letter + " 1;", 1, 0);
        }
        for (String other : new String[] {"@", "[", "`", "{", "/", ":", "_", "\0", "\u00ff"}) {
            faultDue("plant" + other + " 1;", 1, 5);
            faultDue("plant 1" + other + ";", 1, 7);
        }
        faultDue("pla nt 1;", 1, 0);
        faultDue("plant -1;", 1, 6);
        faultDue("plant 1,", 1, 7);
        faultDue("plant\n1;", 1, 5);
        faultDue("plant 1;\u00e9", 1, 8);
        faultDue("plant 1; plant 1;", 2, 9);
        faultDue("plant 1; reap 2; plant 999;", 2, 17);
        faultDue("plant 100; reap reap", 3, 6);
        faultDue("reap 100;", 3, 5);
        faultDue("carry 100;", 3, 6);
        faultDue("lapse 0;", 3, 6);
        faultDue("lapse 401;", 3, 6);
        faultDue("grace 401;", 3, 6);
        faultDue("food 100;", 3, 5);
        faultDue("wage 1000;", 3, 5);
        faultDue("wage 4294967297;", 3, 5);
        faultDue("wage " + "9".repeat(190), 3, 5);
        faultDue("plant 1" + " ".repeat(193), 1, 200);
        custom(x, "lapse 0;");
        custom(x, "lapse 1;");
        due("fault(0) without", x.fault(0), 0);
        due("fault(1) without", x.fault(1), NONE);
        for (int what : new int[] {2, -1, LOW, HIGH}) {
            due("fault(" + what + ")", x.fault(what), NONE);
        }
    }

    private static void says() {
        promise = 9;
        HandsReturned x = new HandsReturned();
        custom(x, "plant 0; reap 2; carry 3; lapse 1; grace 0; food 6; wage 0;");
        int[] told = {0, 2, 3, 1, 0, 6, 0};
        for (int w = 0; w < 7; w++) {
            due("says(" + w + ")", x.says(w), told[w]);
        }
        for (int what : new int[] {-1, 7, LOW, HIGH}) {
            due("says(" + what + ")", x.says(what), NONE);
        }
    }

    private static void ill() {
        promise = 10;
        HandsReturned x = valley(1, 3);
        x.field(0, 0, 9, 0, 0);
        due("no such house", x.ill(1, 1), false);
        due("house -1", x.ill(-1, 1), false);
        due("days -1", x.ill(0, -1), false);
        due("days 401", x.ill(0, 401), false);
        due("ill(0, 400)", x.ill(0, 400), true);
        due("days ILL", x.houseOf(0, 2), 400);
        due("ill(0, 2)", x.ill(0, 2), true);
        due("no work", x.work(0, 0, 1), NONE);
        x.days(1);
        due("no work on the second day", x.work(0, 0, 1), NONE);
        x.days(1);
        due("work behind it", x.work(0, 0, 1), 8);
        x.ill(0, 1);
        due("none free", x.houseOf(0, 3), 0);
        due("ill(0, 0)", x.ill(0, 0), true);
        due("free again but for the one", x.houseOf(0, 3), 2);
        x.days(5);
        due("never below 0", x.houseOf(0, 2), 0);
    }

    private static void work() {
        promise = 11;
        HandsReturned x = valley(2, 5);
        x.field(0, 0, 6, 0, 101);
        x.field(0, 1, 1, 1, 100);
        int[][] wrongOnes = {
            {2, 0, 1}, {-1, 0, 1}, {0, 2, 1}, {0, -1, 1}, {0, 0, 0}, {0, 0, -1}, {0, 0, LOW}, {0, 0, HIGH},
            {0, 0, 6}, {0, 1, 1}, {LOW, HIGH, 1}};
        for (int[] w : wrongOnes) {
            due("work" + Arrays.toString(w), x.work(w[0], w[1], w[2]), NONE);
        }
        due("all hands", x.work(0, 0, 5), 1);
        due("no hand is free", x.work(0, 0, 1), NONE);
        due("more than it needs", x.work(1, 0, 2), NONE);
        x.loss(0, 50);
        due("the last", x.work(1, 0, 1), 0);
        due("done on", x.fieldOf(0, 5), 0);
        due("proceeds are cut", x.fieldOf(0, 6), 50);
        due("a done field", x.work(1, 0, 1), NONE);
        x.loss(9, 30);
        x.days(100);
        due("ready and very late", x.work(1, 1, 1), 0);
        due("loss of 9 days", x.fieldOf(1, 6), 70);
        x.loss(9, 99);
        due("loss as it was then", x.fieldOf(1, 6), 70);
    }

    private static void workOwed() {
        promise = 11;
        HandsReturned x = valley(2, 9);
        x.field(0, 0, 60, 0, 0);
        x.field(1, 1, 60, 0, 0);
        x.field(1, 2, 60, 0, 0);
        custom(x, "plant 2; reap 3; carry 0; food 4;");
        x.work(1, 0, 2);
        x.work(1, 0, 1);
        due("one debt of this day", x.about(3), 1);
        due("owed", x.owes(0, 1), 6);
        x.days(1);
        x.work(1, 0, 1);
        due("a debt of the next day", x.about(3), 2);
        x.work(0, 1, 1);
        due("the oldest is lessened", x.owes(0, 1), 5);
        due("two debts still", x.about(3), 2);
        due("the oldest day", x.oldest(0, 1), 0);
        x.work(0, 1, 1);
        due("the oldest is gone", x.oldest(0, 1), 1);
        due("one debt still", x.about(3), 1);
        x.work(0, 1, 1);
        due("turned round", x.owes(1, 0), 1);
        due("none that way", x.owes(0, 1), 0);
        due("its day", x.oldest(1, 0), 1);
        x.work(0, 2, 1);
        due("work of worth 0", x.owes(1, 0), 1);
        due("food to 0", x.houseOf(0, 5), 16);
        due("food of 0", x.houseOf(0, 6), 16);
        due("food of 1", x.houseOf(1, 6), 16);
        x.work(0, 0, 1);
        due("no food of oneself", x.houseOf(0, 6), 16);
        due("no debt to oneself", x.about(3), 1);
        HandsReturned y = valley(2, 9);
        y.field(0, 0, 60, 0, 0);
        custom(y, "plant 0;");
        y.work(1, 0, 3);
        due("no debt of 0 units", y.about(3), 0);
    }

    private static void workAtThreeHundredDebts() {
        promise = 11;
        HandsReturned x = valley(8, 9);
        for (int h = 0; h < 8; h++) {
            x.field(h, 0, 60, 0, 0);
        }
        // Houses 0 and 1 owe more than one field's need.
        x.field(0, 0, 60, 0, 0);
        x.field(1, 0, 60, 0, 0);
        int made = 0;
        for (int day = 0; day < 11 && made < 300; day++) {
            for (int ower = 0; ower < 7; ower++) {
                for (int worker = ower + 1; worker < 8 && made < 300; worker++) {
                    if (x.work(worker, ower, 1) == NONE) {
                        x.work(worker, 8 + ower, 1);
                    }
                    made++;
                }
            }
            if (made < 300) {
                x.days(1);
            }
        }
        due("debts", x.about(3), 300);
        due("another's field", x.work(7, 6, 1), NONE);
        due("work that would lessen", x.work(0, 7, 1), NONE);
        due("the own field", x.work(7, 7, 1), NONE);
        due("hired hands can come", x.hire(7, 1), 59);
        due("even()", x.even(), 300);
        due("work again", x.work(7, 6, 1) >= 0, true);
    }

    private static void hire() {
        promise = 12;
        HandsReturned x = valley(2, 1);
        x.field(1, 0, 60, 0, 0);
        x.field(0, 0, 5, 1, 7);
        custom(x, "wage 11;");
        int[][] wrongOnes = {{2, 1}, {-1, 1}, {0, 0}, {0, -1}, {0, 21}, {0, LOW}, {0, HIGH}, {1, 1}};
        for (int[] h : wrongOnes) {
            due("hire" + Arrays.toString(h), x.hire(h[0], h[1]), NONE);
        }
        due("hire(0, 19)", x.hire(0, 19), 41);
        due("more than 20", x.hire(0, 2), NONE);
        due("up to 20", x.hire(0, 1), 40);
        due("none more", x.hire(0, 1), NONE);
        due("wages", x.houseOf(1, 7), 220);
        due("no wages of the other", x.houseOf(0, 7), 0);
        due("no debts", x.about(3), 0);
        x.ill(0, 9);
        x.days(1);
        due("more than it needs", x.hire(1, 6), NONE);
        due("all of the need, the house being ill", x.hire(1, 5), 0);
        due("it is done", x.fieldOf(1, 5), 1);
        due("its proceeds", x.houseOf(0, 9), 7);
        due("20 in the valley, not in a field", x.hire(0, 16), NONE);
        due("the rest of 20", x.hire(0, 15), 25);
    }

    private static void days() {
        promise = 13;
        HandsReturned x = valley(1, 4);
        for (int n : new int[] {0, -1, 101, LOW, HIGH}) {
            due("days(" + n + ")", x.days(n), NONE);
        }
        x.field(0, 0, 60, 0, 0);
        x.work(0, 0, 4);
        x.hire(0, 20);
        due("days(1)", x.days(1), 1);
        due("hands are free", x.houseOf(0, 3), 4);
        due("no hired ones", x.about(4), 0);
        due("days(100)", x.days(100), 101);
        due("days(100)", x.days(100), 201);
        due("days(100)", x.days(100), 301);
        due("beyond 400", x.days(100), NONE);
        due("the clock stays", x.about(2), 301);
        due("days(99)", x.days(99), 400);
        due("beyond the last day", x.days(1), NONE);
    }

    private static void lapses() {
        promise = 13;
        HandsReturned x = new HandsReturned();
        x.house(9, false);
        x.house(9, true);
        x.field(0, 0, 60, 0, 0);
        x.field(1, 0, 60, 0, 0);
        x.house(9, false);
        custom(x, "lapse 2; grace 3;");
        x.work(2, 0, 1);
        x.work(2, 1, 2);
        x.days(1);
        x.work(2, 0, 3);
        x.days(1);
        due("not more than lapse", x.owes(0, 2), 4);
        x.days(1);
        due("the first lapsed", x.owes(0, 2), 3);
        due("the oldest is the second", x.oldest(0, 2), 1);
        due("units lapsed", x.houseOf(0, 8), 1);
        x.days(2);
        due("all lapsed", x.owes(0, 2), 0);
        due("units lapsed", x.houseOf(0, 8), 4);
        due("the widow's grace", x.owes(1, 2), 2);
        x.days(1);
        due("the widow's lapsed", x.owes(1, 2), 0);
        due("her units lapsed", x.houseOf(1, 8), 2);
        due("no debts", x.about(3), 0);
        due("none lapsed that was owed to it", x.houseOf(2, 8), 0);
        x.work(2, 0, 1);
        x.days(2);
        custom(x, "lapse 1;");
        due("a custom lapses nothing by itself", x.owes(0, 2), 1);
        custom(x, "");
        x.days(100);
        due("lapse as it is then", x.owes(0, 2), 1);
        HandsReturned y = valley(2, 1);
        y.field(0, 0, 1, 0, 0);
        y.work(1, 0, 1);
        for (int i = 0; i < 4; i++) {
            y.days(100);
        }
        due("without lapse none lapses", y.owes(0, 1), 1);
    }

    private static void houseOf() {
        promise = 14;
        HandsReturned x = new HandsReturned();
        x.house(5, true);
        x.house(6, false);
        x.field(0, 0, 3, 0, 100);
        x.field(0, 0, 1, 0, 11);
        x.field(1, 0, 1, 0, 1000);
        custom(x, "plant 7; food 2; wage 5; lapse 1;");
        x.work(1, 0, 2);
        x.hire(0, 1);
        x.work(0, 1, 1);
        x.ill(1, 3);
        int[] zero = {5, 1, 0, 4, -14, 0, 4, 5, 0, 111};
        int[] one = {6, 0, 3, 0, 14, 4, 0, 0, 0, 0};
        for (int what = 0; what < 10; what++) {
            due("houseOf(0, " + what + ")", x.houseOf(0, what), zero[what]);
            due("houseOf(1, " + what + ")", x.houseOf(1, what), one[what]);
        }
        x.days(2);
        due("units LAPSED", x.houseOf(0, 8), 14);
        due("NET behind it", x.houseOf(1, 4), 0);
        for (int what : new int[] {-1, 10, LOW, HIGH}) {
            due("houseOf(0, " + what + ")", x.houseOf(0, what), NO_HOUSE);
        }
        for (int house : new int[] {-1, 2, 8, LOW, HIGH}) {
            due("houseOf(" + house + ", 0)", x.houseOf(house, 0), NO_HOUSE);
        }
    }

    private static void fieldOf() {
        promise = 15;
        HandsReturned x = valley(3, 9);
        x.field(2, 1, 8, 3, 999);
        int[] first = {2, 1, 8, 3, 999, NONE, NONE};
        for (int what = 0; what < 7; what++) {
            due("fieldOf(0, " + what + ")", x.fieldOf(0, what), first[what]);
        }
        x.loss(1, 33);
        x.days(4);
        x.work(0, 0, 3);
        due("what it needs still", x.fieldOf(0, 2), 5);
        x.work(2, 0, 5);
        int[] then = {2, 1, 0, 3, 999, 4, 669};
        for (int what = 0; what < 7; what++) {
            due("fieldOf(0, " + what + ") when done", x.fieldOf(0, what), then[what]);
        }
        for (int what : new int[] {-1, 7, LOW, HIGH}) {
            due("fieldOf(0, " + what + ")", x.fieldOf(0, what), NONE);
        }
        for (int field : new int[] {-1, 1, 12, LOW, HIGH}) {
            due("fieldOf(" + field + ", 0)", x.fieldOf(field, 0), NONE);
        }
    }

    private static void owes() {
        promise = 16;
        HandsReturned x = valley(3, 9);
        x.field(0, 0, 60, 0, 0);
        x.work(1, 0, 4);
        x.work(2, 0, 1);
        x.days(1);
        x.work(1, 0, 5);
        due("owes(0, 1)", x.owes(0, 1), 9);
        due("owes(0, 2)", x.owes(0, 2), 1);
        due("owes(1, 0)", x.owes(1, 0), 0);
        due("owes(1, 2)", x.owes(1, 2), 0);
        int[][] wrongOnes = {{0, 0}, {2, 2}, {3, 0}, {0, 3}, {-1, 0}, {0, -1}, {LOW, HIGH}};
        for (int[] p : wrongOnes) {
            due("owes" + Arrays.toString(p), x.owes(p[0], p[1]), NONE);
        }
    }

    private static void oldest() {
        promise = 17;
        HandsReturned x = valley(3, 9);
        x.field(0, 0, 60, 0, 0);
        due("without", x.oldest(0, 1), NONE);
        x.days(3);
        x.work(1, 0, 4);
        x.days(1);
        x.work(1, 0, 5);
        x.work(2, 0, 5);
        due("oldest(0, 1)", x.oldest(0, 1), 3);
        due("oldest(0, 2)", x.oldest(0, 2), 4);
        due("oldest(1, 0)", x.oldest(1, 0), NONE);
        int[][] wrongOnes = {{0, 0}, {3, 0}, {0, 3}, {-1, 0}, {0, -1}, {LOW, HIGH}};
        for (int[] p : wrongOnes) {
            due("oldest" + Arrays.toString(p), x.oldest(p[0], p[1]), NONE);
        }
    }

    /** A valley in which each of the pairs {ower, worker, units} is a debt. */
    private static HandsReturned indebted(int houses, int[][] pairs) {
        HandsReturned x = valley(houses, 9);
        for (int h = 0; h < houses; h++) {
            x.field(h, 0, 60, 0, 0);
        }
        for (int[] p : pairs) {
            due("work of the ground", x.work(p[1], p[0], p[2]) >= 0, true);
        }
        return x;
    }

    private static void paymentsDue(HandsReturned x, int[][] want) {
        due("payments()", x.payments(), want.length);
        for (int i = 0; i < want.length; i++) {
            for (int what = 0; what < 3; what++) {
                due("payment(" + i + ", " + what + ")", x.payment(i, what), want[i][what]);
            }
        }
        due("payment behind the last", x.payment(want.length, 0), NONE);
    }

    private static void payments() {
        promise = 18;
        paymentsDue(indebted(3, new int[][] {{0, 1, 3}, {1, 2, 3}}), new int[][] {{0, 2, 3}});
        paymentsDue(indebted(3, new int[][] {{0, 1, 3}, {1, 2, 3}, {2, 0, 3}}), new int[][] {});
        paymentsDue(indebted(3, new int[][] {{2, 0, 3}, {2, 1, 4}}), new int[][] {{2, 0, 3}, {2, 1, 4}});
        promise = 19;
        HandsReturned x = indebted(2, new int[][] {{0, 1, 5}});
        paymentsDue(x, new int[][] {{0, 1, 5}});
        int[][] wrongOnes = {{0, 3}, {0, -1}, {1, 0}, {-1, 0}, {LOW, 0}, {HIGH, 0}, {0, LOW}, {0, HIGH}};
        for (int[] p : wrongOnes) {
            due("payment" + Arrays.toString(p), x.payment(p[0], p[1]), NONE);
        }
        x.work(0, 1, 2);
        paymentsDue(x, new int[][] {{0, 1, 3}});
    }

    private static void groups() {
        promise = 19;
        // Nets -3 -5 +5 +3: two groups, 0 with 3 and 1 with 2; in one group it would be three payments.
        paymentsDue(indebted(4, new int[][] {{0, 2, 3}, {1, 2, 2}, {1, 3, 3}}),
            new int[][] {{0, 3, 3}, {1, 2, 5}});
        // Nets -2 -2 +2 +2: of both ways the group of house 0 with 2 is the lesser number.
        paymentsDue(indebted(4, new int[][] {{0, 3, 2}, {1, 2, 2}}),
            new int[][] {{0, 2, 2}, {1, 3, 2}});
        // Nets -1 -4 +2 +3 +4 -4: 0 1 2 3 is a lesser number than 0 2 3 5, so 5 is left for 4.
        paymentsDue(indebted(6, new int[][] {{0, 2, 1}, {1, 2, 1}, {1, 3, 3}, {5, 4, 4}}),
            new int[][] {{0, 2, 1}, {1, 2, 1}, {1, 3, 3}, {5, 4, 4}});
        // A greedy matching of greatest with greatest would miss the two groups of three.
        paymentsDue(indebted(6, new int[][] {{0, 1, 4}, {0, 2, 3}, {3, 4, 5}, {3, 5, 1}}),
            new int[][] {{0, 1, 4}, {0, 2, 3}, {3, 4, 5}, {3, 5, 1}});
        // All eight houses, four groups.
        paymentsDue(indebted(8, new int[][] {{0, 7, 1}, {1, 6, 2}, {2, 5, 3}, {3, 4, 4}}),
            new int[][] {{0, 7, 1}, {1, 6, 2}, {2, 5, 3}, {3, 4, 4}});
    }

    private static void even() {
        promise = 20;
        HandsReturned x = indebted(4, new int[][] {{0, 1, 3}, {1, 2, 3}, {2, 3, 3}});
        due("one payment", x.payments(), 1);
        due("even() tells the debts", x.even(), 3);
        due("no debts", x.about(3), 0);
        due("no payments", x.payments(), 0);
        due("no payment", x.payment(0, 2), NONE);
        due("none owed", x.owes(0, 1), 0);
        due("none oldest", x.oldest(0, 1), NONE);
        due("net", x.houseOf(0, 4), 0);
        due("none lapsed", x.houseOf(0, 8), 0);
        due("even() again", x.even(), 0);
        HandsReturned y = valley(2, 9);
        y.field(0, 0, 60, 0, 0);
        custom(y, "food 3;");
        y.work(1, 0, 2);
        y.even();
        due("food is kept by itself", y.houseOf(1, 5), 6);
    }

    private static void planDue(HandsReturned x, int hands, int lost, int... fields) {
        due("plan(" + hands + ")", x.plan(hands), lost);
        for (int i = 0; i < fields.length; i++) {
            due("planned(" + i + ")", x.planned(i), fields[i]);
        }
        due("planned behind the last", x.planned(fields.length), NONE);
    }

    private static void plan() {
        promise = 21;
        HandsReturned x = valley(1, 9);
        for (int h : new int[] {0, 100, -1, LOW, HIGH}) {
            due("plan(" + h + ")", x.plan(h), NONE);
        }
        planDue(x, 1, 0);
        x.field(0, 0, 2, 0, 100);
        x.field(0, 0, 2, 0, 1000);
        for (int k = 0; k < 10; k++) {
            x.loss(k, 10 * k);
        }
        planDue(x, 2, 10, 1, 0);
        planDue(x, 4, 0, 0, 1);
        planDue(x, 99, 0, 0, 1);
        // One hand: field 1 is done on day 1, field 0 on day 3.
        planDue(x, 1, 130, 1, 0);
        // Three hands: the second field gets the third hand of day 0, and is done on day 1.
        planDue(x, 3, 10, 1, 0);
        // A field that isn't ready leaves its hands to the next one in the order.
        x.field(0, 0, 6, 1, 10000);
        planDue(x, 2, 2040, 1, 2, 0);
        x.days(1);
        x.work(0, 1, 2);
        planDue(x, 2, 2040, 2, 0);
        // Field 1 is done just before field 0 is ready, so both orders lose nothing.
        HandsReturned w = valley(1, 9);
        w.loss(1, 10);
        w.field(0, 0, 2, 1, 100);
        w.field(0, 0, 2, 0, 100);
        planDue(w, 2, 0, 0, 1);
        HandsReturned y = valley(1, 9);
        y.loss(9, 100);
        y.days(100);
        y.field(0, 0, 60, 0, 500);
        planDue(y, 99, 500, 0);
        y.field(0, 0, 60, 400, 700);
        planDue(y, 1, 1200, 0, 1);
        planDue(y, 60, 500, 0, 1);
        HandsReturned z = valley(1, 9);
        for (int i = 0; i < 7; i++) {
            z.field(0, 0, 1, 0, 1);
        }
        planDue(z, 1, 0, 0, 1, 2, 3, 4, 5, 6);
        z.field(0, 0, 1, 0, 1);
        due("eight aren't done", z.plan(1), NONE);
        due("the order stays", z.planned(6), 6);
        z.work(0, 3, 1);
        planDue(z, 1, 0, 0, 1, 2, 4, 5, 6, 7);
    }

    private static void planned() {
        promise = 22;
        HandsReturned x = valley(1, 9);
        due("ahead of any", x.planned(0), NONE);
        x.field(0, 0, 1, 0, 1);
        x.plan(1);
        due("planned(0)", x.planned(0), 0);
        for (int i : new int[] {-1, 1, 7, LOW, HIGH}) {
            due("planned(" + i + ")", x.planned(i), NONE);
        }
        due("a wrong plan", x.plan(100), NONE);
        due("the former stays", x.planned(0), 0);
        x.work(0, 0, 1);
        due("it stays when the field is done", x.planned(0), 0);
        due("a plan of none", x.plan(1), 0);
        due("none planned", x.planned(0), NONE);
    }

    private static void about() {
        promise = 23;
        HandsReturned x = valley(4, 9);
        x.field(0, 0, 60, 0, 0);
        x.days(6);
        x.work(1, 0, 1);
        x.work(2, 0, 1);
        x.hire(0, 5);
        x.feed(0, 0, 0, 0, 0);
        x.end(13);
        x.loss(0, 1);
        x.loss(9, 100);
        int[] told = {4, 1, 6, 2, 5, 13};
        for (int what = 0; what < told.length; what++) {
            due("about(" + what + ")", x.about(what), told[what]);
        }
        due("about(20)", x.about(20), 1);
        due("about(21)", x.about(21), 0);
        due("about(29)", x.about(29), 100);
        for (int what : new int[] {-1, 6, 19, 30, LOW, HIGH}) {
            due("about(" + what + ")", x.about(what), NONE);
        }
    }
}
