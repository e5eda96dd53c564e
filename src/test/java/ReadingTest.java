import java.nio.charset.StandardCharsets;
import java.util.ArrayList;
import java.util.Arrays;
import java.util.List;
import java.util.Random;

/**
 * Tests for the sentences of the document that name no bound of their own, so that EdgesTest has
 * none for them: what holds over many calls, what the calls say of each other, what a call leaves
 * alone. The numbers that are drawn come from fixed seeds. No object is used for more than 512 calls.
 */
public final class ReadingTest {
    private static final int NONE = -1;
    private static final int NO_HOUSE = -1000000;
    private static final int LAST_CALL = 512;

    private static String sentence = "";
    private static int sentences = 0;
    private static int wrong = 0;

    public static void main(String[] args) {
        whatItIs();
        termsOfHousesAndWork();
        termsOfDebts();
        termsOfPayments();
        termsOfThePlan();
        whatIsNotPromised();
        exampleOfTheReadme();
        System.out.println(wrong == 0 ? sentences + " sentences more hold" : wrong + " answers are not as due");
        if (wrong != 0) {
            System.exit(1);
        }
    }

    private static void sentence(String words) {
        sentence = words;
        sentences++;
    }

    private static void due(String call, int got, int want) {
        if (got != want) {
            wrong++;
            System.out.println("\"" + sentence + "\": " + call + " answered " + got + ", due is " + want);
        }
    }

    private static void due(String call, boolean got) {
        due(call, got ? 1 : 0, 1);
    }

    // ---- grounds

    /** Houses with nine hands, each with a field of 60 hands' days that is ready, to plant. */
    private static HandsReturned plantedValley(int houses) {
        HandsReturned x = new HandsReturned();
        for (int h = 0; h < houses; h++) {
            x.house(9, false);
            x.field(h, 0, 60, 0, 0);
        }
        return x;
    }

    /** Three houses, one of them a widow's; debts of two days, food, wages, a plan, half a text on the tape. */
    private static HandsReturned busyValley() {
        HandsReturned x = new HandsReturned();
        x.house(5, false);
        x.house(3, true);
        x.house(9, false);
        x.field(0, 0, 20, 0, 500);
        x.field(1, 1, 10, 0, 900);
        x.field(2, 2, 1, 0, 100);
        x.loss(0, 5);
        x.loss(1, 20);
        custom(x, "plant 3; reap 2; lapse 5; grace 7; food 2; wage 7;");
        x.work(1, 0, 2);
        x.work(2, 1, 4);
        x.work(0, 2, 1);
        x.hire(1, 3);
        x.days(1);
        x.work(2, 0, 1);
        x.plan(2);
        tell(x, "carry 9; wage");
        return x;
    }

    private static void tell(HandsReturned x, String text) {
        byte[] bytes = text.getBytes(StandardCharsets.ISO_8859_1);
        byte[] padded = Arrays.copyOf(bytes, (bytes.length + 19) / 20 * 20);
        for (int i = 0; i < padded.length; i += 20) {
            x.feed(four(padded, i), four(padded, i + 4), four(padded, i + 8), four(padded, i + 12), four(padded, i + 16));
        }
        x.end(bytes.length);
    }

    private static int four(byte[] b, int i) {
        return (b[i] & 255) << 24 | (b[i + 1] & 255) << 16 | (b[i + 2] & 255) << 8 | b[i + 3] & 255;
    }

    private static int custom(HandsReturned x, String text) {
        tell(x, text);
        return x.custom();
    }

    // ---- What it is

    private static void whatItIs() {
        plansTillTheLastCall();
        textsTillTheLastCall();
        debtsTillTheLastCall();
        daysTillTheLastCall();
    }

    private static void plansTillTheLastCall() {
        sentence("An object is used for at most 512 calls: plans and payments till the last");
        HandsReturned x = plantedValley(7);
        x.work(1, 0, 3);
        x.work(2, 1, 3);
        x.loss(9, 100);
        for (int call = 18; call <= LAST_CALL; call += 3) {
            due("plan(1) as call " + call, x.plan(1), 0);
            due("planned(6) behind call " + call, x.planned(6), 6);
            due("payment(0, 1) behind call " + call, x.payment(0, 1), 2);
        }
    }

    private static void textsTillTheLastCall() {
        sentence("An object is used for at most 512 calls: texts till the last");
        HandsReturned x = new HandsReturned();
        String[] texts = {"plant 7; reap 8;   ", "plant 7; reap 100; ", "                   "};
        int[] clauses = {2, NONE, 0};
        int[] plant = {7, 7, 1};
        for (int i = 0; i < LAST_CALL / 4; i++) {
            due("custom() " + i, custom(x, texts[i % 3]), clauses[i % 3]);
            due("says(0) behind custom() " + i, x.says(0), plant[i % 3]);
        }
    }

    private static void debtsTillTheLastCall() {
        sentence("An object is used for at most 512 calls: debts till the last");
        HandsReturned x = plantedValley(2);
        int calls = 4;
        int need = 60;
        for (int i = 0; need > 0; i++) {
            need--;
            due("work " + i, x.work(1, 0, 1), need);
            due("owes " + i, x.owes(0, 1), 1);
            due("even " + i, x.even(), 1);
            calls += 3;
            if (i % 9 == 8) {
                x.days(1);
                calls++;
            }
        }
        for (; calls < LAST_CALL; calls++) {
            due("even() of none", x.even(), 0);
        }
    }

    private static void daysTillTheLastCall() {
        sentence("An object is used for at most 512 calls: days till the last");
        HandsReturned x = plantedValley(2);
        x.work(1, 0, 5);
        for (int day = 1; day <= 400; day++) {
            due("days(1)", x.days(1), day);
        }
        for (int call = 406; call < LAST_CALL; call++) {
            due("days(1) beyond the last", x.days(1), NONE);
        }
        due("what is owed", x.owes(0, 1), 5);
    }

    // ---- Terms I and II

    private static void termsOfHousesAndWork() {
        eachHouseByItself();
        eachFieldByItself();
        worthOfEachKind();
        hiredHandsForAField();
        needsThen();
    }

    private static void eachHouseByItself() {
        sentence("HOUSES: HANDS, a WIDOW's or not, ILL for so many days");
        HandsReturned x = new HandsReturned();
        for (int h = 0; h < 8; h++) {
            x.house(h + 1, h % 3 == 0);
        }
        x.field(0, 0, 60, 0, 0);
        for (int h = 0; h < 8; h += 2) {
            x.ill(h, h);
        }
        for (int h = 0; h < 8; h++) {
            due("HANDS of " + h, x.houseOf(h, 0), h + 1);
            due("a WIDOW's, " + h, x.houseOf(h, 1), h % 3 == 0 ? 1 : 0);
            due("days ILL of " + h, x.houseOf(h, 2), h % 2 == 0 ? h : 0);
            due("hands free of " + h, x.houseOf(h, 3), h > 0 && h % 2 == 0 ? 0 : h + 1);
        }
        x.work(3, 0, 2);
        due("hands free of the one that works", x.houseOf(3, 3), 2);
        due("hands free of the one before", x.houseOf(1, 3), 2);
        due("hands free of the one behind", x.houseOf(5, 3), 6);
    }

    private static void eachFieldByItself() {
        sentence("FIELDS: a HOUSE's, a KIND of work, NEED, READY from a DAY on, VALUE");
        HandsReturned x = plantedValley(0);
        for (int h = 0; h < 8; h++) {
            x.house(9, false);
        }
        for (int f = 0; f < 12; f++) {
            x.field(7 - f % 8, f % 3, 60 - f, f / 6, 100 * f);
        }
        x.work(0, 3, 9);
        for (int f = 0; f < 12; f++) {
            int[] told = {7 - f % 8, f % 3, f == 3 ? 48 : 60 - f, f / 6, 100 * f, NONE, NONE};
            for (int what = 0; what < told.length; what++) {
                due("fieldOf(" + f + ", " + what + ")", x.fieldOf(f, what), told[what]);
            }
        }
    }

    private static void worthOfEachKind() {
        sentence("plant, reap, carry: what a hand's day is worth, in units");
        String[] words = {"plant", "reap", "carry"};
        for (int kind = 0; kind < 3; kind++) {
            for (int worth : new int[] {0, 1, 2, 98, 99}) {
                HandsReturned x = new HandsReturned();
                x.house(9, false);
                x.house(9, false);
                for (int f = 0; f < 3; f++) {
                    x.field(0, f, 60, 0, 0);
                }
                custom(x, words[kind] + " " + worth + ";");
                x.work(1, kind, 4);
                due("four hands' days of " + words[kind] + " " + worth, x.owes(0, 1), 4 * worth);
                x.work(1, (kind + 1) % 3, 2);
                due("two of a KIND that isn't told besides", x.owes(0, 1), 4 * worth + 2);
            }
        }
    }

    private static void hiredHandsForAField() {
        sentence("HIRED hands for a FIELD: its HOUSE pays");
        HandsReturned x = plantedValley(3);
        custom(x, "plant 5; food 6; wage 7;");
        x.hire(1, 4);
        int[] paid = {0, 28, 0};
        for (int h = 0; h < 3; h++) {
            due("paid by " + h, x.houseOf(h, 7), paid[h]);
            due("NET of " + h, x.houseOf(h, 4), 0);
            due("FOOD owed to " + h, x.houseOf(h, 5), 0);
            due("FOOD that it owes, " + h, x.houseOf(h, 6), 0);
            due("hands free of " + h, x.houseOf(h, 3), 9);
        }
        due("NEEDS of its FIELD", x.fieldOf(1, 2), 56);
        due("NEEDS of another", x.fieldOf(0, 2), 60);
    }

    private static void needsThen() {
        sentence("WORK, HIRED hands: what the FIELD NEEDS then");
        HandsReturned x = plantedValley(2);
        int need = 60;
        for (int day = 0; day < 4; day++) {
            need -= 5;
            due("work of its own HOUSE", x.work(0, 0, 5), need);
            need -= 4;
            due("work of the other one", x.work(1, 0, 4), need);
            need -= 6;
            due("HIRED hands", x.hire(0, 6), need);
            due("what it NEEDS still", x.fieldOf(0, 2), need);
            x.days(1);
        }
        due("DONE on the fourth DAY", x.fieldOf(0, 5), 3);
    }

    // ---- Terms II and III: debts

    private static void termsOfDebts() {
        debtsTogether();
        debtsThatGoRound();
        lapsedAndReturned();
        netsComeToNothing();
    }

    private static void debtsTogether() {
        sentence("OWES of a HOUSE to another one: its DEBTS to it together");
        HandsReturned x = plantedValley(3);
        due("without DEBTS", x.owes(0, 1), 0);
        int owed = 0;
        for (int day = 0; day < 6; day++) {
            x.work(1, 0, day + 1);
            x.work(2, 0, 1);
            owed += day + 1;
            due("OWES on day " + day, x.owes(0, 1), owed);
            due("OWES to the third on day " + day, x.owes(0, 2), day + 1);
            due("the other way", x.owes(1, 0), 0);
            due("DEBTS", x.about(3), 2 * (day + 1));
            x.days(1);
        }
    }

    private static void debtsThatGoRound() {
        sentence("the DEBTS of the HOUSE that works to the FIELD's are lessened, no others");
        HandsReturned x = plantedValley(3);
        x.work(1, 0, 2);
        x.work(2, 1, 2);
        x.work(0, 2, 2);
        due("three DEBTS that go round stay", x.about(3), 3);
        due("OWES 0 to 1", x.owes(0, 1), 2);
        due("OWES 1 to 2", x.owes(1, 2), 2);
        due("OWES 2 to 0", x.owes(2, 0), 2);
        x.work(0, 1, 1);
        due("one of them is lessened", x.owes(0, 1), 1);
        due("DEBTS then", x.about(3), 3);
        x.work(0, 1, 3);
        due("it is gone, and two are left", x.owes(1, 0), 2);
        due("DEBTS behind it", x.about(3), 3);
    }

    private static void lapsedAndReturned() {
        sentence("LAPSE: they are gone");
        HandsReturned x = plantedValley(2);
        custom(x, "lapse 1;");
        x.work(1, 0, 4);
        x.days(2);
        due("PAYMENTS of what lapsed", x.payments(), 0);
        due("NET of what lapsed", x.houseOf(1, 4), 0);
        due("DEBTS that even() finds", x.even(), 0);
        x.work(0, 1, 4);
        due("what lapsed isn't lessened by work", x.owes(1, 0), 4);
        due("units LAPSED stay told", x.houseOf(0, 8), 4);
    }

    private static void netsComeToNothing() {
        sentence("NET: what all owe to it less what it owes");
        Random random = new Random(7);
        for (int run = 0; run < 60; run++) {
            HandsReturned x = randomDebts(random, 2 + run % 7);
            int houses = x.about(0);
            int together = 0;
            for (int h = 0; h < houses; h++) {
                int net = 0;
                for (int other = 0; other < houses; other++) {
                    net += other == h ? 0 : x.owes(other, h) - x.owes(h, other);
                }
                due("NET of " + h, x.houseOf(h, 4), net);
                together += net;
            }
            due("all NETS together", together, 0);
        }
    }

    /** Houses that worked in each other's fields on a few days, by a custom of some worth. */
    private static HandsReturned randomDebts(Random random, int houses) {
        HandsReturned x = plantedValley(houses);
        custom(x, "plant " + (1 + random.nextInt(4)) + ";");
        for (int day = 0; day < 1 + random.nextInt(3); day++) {
            for (int i = 0; i < houses * 2; i++) {
                x.work(random.nextInt(houses), random.nextInt(houses), 1 + random.nextInt(4));
            }
            x.days(1);
        }
        return x;
    }

    // ---- Terms III: payments

    private static void termsOfPayments() {
        sentence("PAYMENTS: behind which each NET would be 0: and so on till all is even");
        Random random = new Random(11);
        for (int run = 0; run < 300; run++) {
            HandsReturned x = randomDebts(random, 2 + run % 7);
            paymentsMakeEven(x);
            due("PAYMENTS are the fewest of run " + run, x.payments(), fewest(netsOf(x)));
        }
    }

    private static int[] netsOf(HandsReturned x) {
        int[] nets = new int[x.about(0)];
        for (int h = 0; h < nets.length; h++) {
            nets[h] = x.houseOf(h, 4);
        }
        return nets;
    }

    private static void paymentsMakeEven(HandsReturned x) {
        int[] nets = netsOf(x);
        int payments = x.payments();
        for (int i = 0; i < payments; i++) {
            int payer = x.payment(i, 0);
            int payee = x.payment(i, 1);
            int units = x.payment(i, 2);
            if (payer < 0 || payer >= nets.length || payee < 0 || payee >= nets.length) {
                due("PAYMENT " + i + " is between HOUSES", false);
                return;
            }
            due("it is from a HOUSE to another one", payer != payee);
            due("it is of some units", units > 0);
            due("it pays no more than it lacks", units <= -nets[payer]);
            due("to one that wants no less", units <= nets[payee]);
            nets[payer] += units;
            nets[payee] -= units;
        }
        for (int h = 0; h < nets.length; h++) {
            due("NET of " + h + " behind all PAYMENTS", nets[h], 0);
        }
    }

    /** The fewest payments, by trying to pay each house's whole net to each one of the other sign. */
    private static int fewest(int[] nets) {
        int first = 0;
        while (first < nets.length && nets[first] == 0) {
            first++;
        }
        if (first == nets.length) {
            return 0;
        }
        int least = Integer.MAX_VALUE;
        for (int other = first + 1; other < nets.length; other++) {
            if (nets[other] * nets[first] < 0) {
                int[] then = nets.clone();
                then[other] += then[first];
                then[first] = 0;
                least = Math.min(least, 1 + fewest(then));
            }
        }
        return least;
    }

    // ---- Terms III: the plan

    private static void termsOfThePlan() {
        sentence("THE PLAN: hands go to the FIELDS that are READY, the first in the order first");
        Random random = new Random(13);
        for (int run = 0; run < 300; run++) {
            long seed = random.nextLong();
            int hands = 1 + random.nextInt(20);
            // The fewer hands, the smaller the fields, so that all is done within 512 calls.
            int hardest = 4 + hands;
            HandsReturned x = randomFields(new Random(seed), hardest);
            int lost = x.plan(hands);
            int[] order = orderOf(x);
            due("it is an order of the FIELDS that aren't DONE", isOrderOfWaiting(x, order));
            due("LOST when its hands are HIRED, run " + run, lostByHiring(randomFields(new Random(seed), hardest), order, hands), lost);
            int[] other = order.clone();
            swap(other, random.nextInt(order.length), random.nextInt(order.length));
            due("another order loses no less, run " + run, lostByHiring(randomFields(new Random(seed), hardest), other, hands) >= lost);
        }
        plansDayByDay();
    }

    /** Up to seven fields that wait, begun ones and one that is done among them, on a day of the first ten. */
    private static HandsReturned randomFields(Random random, int hardest) {
        HandsReturned x = new HandsReturned();
        x.house(9, false);
        for (int k = 0; k < 10; k++) {
            x.loss(k, Math.min(100, k * 5 + random.nextInt(20)));
        }
        int fields = 1 + random.nextInt(7);
        int done = random.nextInt(fields + 1);
        for (int f = 0; f <= fields; f++) {
            x.field(0, f % 3, f == done ? 1 : 2 + random.nextInt(hardest), f == done ? 0 : random.nextInt(12), random.nextInt(10001));
        }
        x.days(1 + random.nextInt(9));
        x.work(0, done, 1);
        x.work(0, random.nextInt(fields + 1), 1);
        x.days(1);
        return x;
    }

    private static int[] orderOf(HandsReturned x) {
        List<Integer> order = new ArrayList<>();
        for (int i = 0; i < 12 && x.planned(i) != NONE; i++) {
            order.add(x.planned(i));
        }
        return order.stream().mapToInt(f -> f).toArray();
    }

    private static boolean isOrderOfWaiting(HandsReturned x, int[] order) {
        int[] waiting = new int[12];
        int count = 0;
        for (int f = 0; f < x.about(1); f++) {
            if (x.fieldOf(f, 5) == NONE) {
                waiting[count++] = f;
            }
        }
        int[] sorted = order.clone();
        Arrays.sort(sorted);
        return Arrays.equals(sorted, Arrays.copyOf(waiting, count));
    }

    private static void swap(int[] order, int i, int j) {
        int kept = order[i];
        order[i] = order[j];
        order[j] = kept;
    }

    /** What the fields of the order really lose when hands are hired for them in that order. */
    private static int lostByHiring(HandsReturned x, int[] order, int hands) {
        for (int day = 0; day < 200 && hireForADay(x, order, hands); day++) {
            x.days(1);
        }
        int lost = 0;
        for (int f : order) {
            lost += x.fieldOf(f, 4) - x.fieldOf(f, 6);
        }
        return lost;
    }

    /** Hires in the order as far as the hands go; whether a field still waits then. */
    private static boolean hireForADay(HandsReturned x, int[] order, int hands) {
        int left = hands;
        for (int f : order) {
            int needs = left > 0 ? x.fieldOf(f, 2) : 0;
            int n = Math.min(left, needs);
            if (n > 0 && x.hire(f, n) != NONE) {
                left -= n;
            }
        }
        // Hands are left over only when no field that is ready lacks any.
        return left == 0 || stillWaits(x, order);
    }

    private static boolean stillWaits(HandsReturned x, int[] order) {
        for (int f : order) {
            if (x.fieldOf(f, 5) == NONE) {
                return true;
            }
        }
        return false;
    }

    private static void plansDayByDay() {
        sentence("THE PLAN: by h hands a DAY from the clock's DAY on");
        Random random = new Random(17);
        for (int run = 0; run < 100; run++) {
            HandsReturned x = randomFields(random, 20);
            int hands = 5 + random.nextInt(16);
            int lost = x.plan(hands);
            int[] all = orderOf(x);
            // Who plans anew on each day loses no more than who keeps to the first plan.
            for (int day = 0; day < 5 && stillWaits(x, all); day++) {
                hireForADay(x, orderOf(x), hands);
                x.days(1);
                int then = x.plan(hands);
                for (int f : all) {
                    then += x.fieldOf(f, 5) == NONE ? 0 : x.fieldOf(f, 4) - x.fieldOf(f, 6);
                }
                due("LOST by planning anew, run " + run, then <= lost);
                lost = then;
            }
        }
    }

    // ---- Not promised

    private static void whatIsNotPromised() {
        questionsChangeNothing();
        objectsStandApart();
        wildCallsAreAnswered();
    }

    private static void questionsChangeNothing() {
        sentence("Nothing is promised beyond the answers and state changes described above");
        HandsReturned x = busyValley();
        List<Integer> first = answers(x);
        due("all asked again", answers(x).equals(first));
        HandsReturned asked = busyValley();
        due("all asked of a like one", answers(asked).equals(first));
        due("a DAY goes by as if nothing had been asked", answersLater(asked).equals(answersLater(busyValley())));
    }

    private static List<Integer> answersLater(HandsReturned x) {
        x.end(8);
        due("the tape is as it was told", x.custom(), 1);
        due("its clause", x.says(2), 9);
        x.days(5);
        return answers(x);
    }

    /** The answers to all that can be asked without a change. */
    private static List<Integer> answers(HandsReturned x) {
        List<Integer> all = new ArrayList<>();
        for (int a = -1; a < 4; a++) {
            for (int what = -1; what < 11; what++) {
                all.add(x.houseOf(a, what));
            }
            for (int what = -1; what < 8; what++) {
                all.add(x.fieldOf(a, what));
            }
            for (int b = -1; b < 4; b++) {
                all.add(x.owes(a, b));
                all.add(x.oldest(a, b));
            }
            all.add(x.payment(a, 2));
            all.add(x.planned(a));
            all.add(x.fault(a));
        }
        for (int what = -1; what < 8; what++) {
            all.add(x.says(what));
        }
        for (int what : new int[] {0, 1, 2, 3, 4, 5, 20, 21, 29}) {
            all.add(x.about(what));
        }
        all.add(x.payments());
        return all;
    }

    private static void objectsStandApart() {
        sentence("No answer depends on other objects");
        HandsReturned one = busyValley();
        HandsReturned two = new HandsReturned();
        List<Integer> ofOne = answers(one);
        List<Integer> ofTwo = answers(two);
        HandsReturned three = busyValley();
        three.even();
        three.days(30);
        three.end(0);
        three.custom();
        three.plan(99);
        due("answers of the first", answers(one).equals(ofOne));
        due("answers of the second", answers(two).equals(ofTwo));
        due("answers of a new one", answers(new HandsReturned()).equals(ofTwo));
    }

    private static void wildCallsAreAnswered() {
        sentence("NONE for others, whatever they are");
        int[] wild = {
            Integer.MIN_VALUE, Integer.MIN_VALUE + 1, -1000001, -1000000, -401, -2, -1, 1000000,
            Integer.MAX_VALUE - 1, Integer.MAX_VALUE};
        for (int a : wild) {
            HandsReturned x = busyValley();
            for (int b : wild) {
                wildCall(x, a, b);
            }
            due("all is as it was behind wild calls of " + a, answers(x).equals(answers(busyValley())));
        }
    }

    private static void wildCall(HandsReturned x, int a, int b) {
        String by = " of " + a + ", " + b;
        due("house" + by, x.house(a, b > 0), NONE);
        due("field" + by, x.field(0, 0, a, b, 0), NONE);
        due("field again" + by, x.field(a, b, 1, 0, 0), NONE);
        due("value" + by, x.field(0, 0, 1, 0, a), NONE);
        due("loss" + by, x.loss(a, b) ? 1 : 0, 0);
        due("end" + by, x.end(a), NONE);
        due("fault" + by, x.fault(a), NONE);
        due("says" + by, x.says(a), NONE);
        due("ill" + by, x.ill(a, b) ? 1 : 0, 0);
        due("work" + by, x.work(a, b, 1), NONE);
        due("work of n" + by, x.work(0, 0, a), NONE);
        due("hire" + by, x.hire(a, b), NONE);
        due("hire of n" + by, x.hire(0, a), NONE);
        due("days" + by, x.days(a), NONE);
        due("houseOf" + by, x.houseOf(a, b), NO_HOUSE);
        due("fieldOf" + by, x.fieldOf(a, b), NONE);
        due("owes" + by, x.owes(a, b), NONE);
        due("oldest" + by, x.oldest(a, b), NONE);
        due("payment" + by, x.payment(a, b), NONE);
        due("plan" + by, x.plan(a), NONE);
        due("planned" + by, x.planned(a), NONE);
        due("about" + by, x.about(a), NONE);
    }

    // ---- README.md

    private static void exampleOfTheReadme() {
        sentence("the example of README.md");
        HandsReturned valley = new HandsReturned();
        due("house a", valley.house(2, false), 0);
        due("house b", valley.house(3, true), 1);
        due("field f", valley.field(0, 0, 4, 0, 100), 0);
        due("loss(1, 10)", valley.loss(1, 10));
        due("feed", valley.feed(0x706c616e, 0x7420323b, 0x20666f6f, 0x6420313b, 0x20202020), 20);
        due("end(16)", valley.end(16), 16);
        due("custom()", valley.custom(), 2);
        due("says(0)", valley.says(0), 2);
        due("work", valley.work(1, 0, 3), 1);
        due("owes", valley.owes(0, 1), 6);
        due("houseOf(b, 5)", valley.houseOf(1, 5), 3);
        due("plan(2)", valley.plan(2), 0);
        due("planned(0)", valley.planned(0), 0);
        due("days(1)", valley.days(1), 1);
        due("plan(2) a day later", valley.plan(2), 10);
        due("hire(f, 1)", valley.hire(0, 1), 0);
        due("fieldOf(f, 6)", valley.fieldOf(0, 6), 90);
        due("payments()", valley.payments(), 1);
        due("payment(0, 2)", valley.payment(0, 2), 6);
        due("even()", valley.even(), 1);
    }
}
