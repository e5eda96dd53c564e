import java.nio.charset.StandardCharsets;
import java.util.ArrayList;
import java.util.Arrays;
import java.util.List;
import java.util.Random;
import java.util.regex.Matcher;
import java.util.regex.Pattern;

/**
 * Compares runs of up to 512 calls with a slow model that follows the document word by word. The
 * runs are made from fixed seeds, so that they are the same ones each time.
 */
public final class ModelTest {
    private static final int RUNS = 600;
    private static final int CALLS = 512;
    private static final String[] NAMES = {"plant", "reap", "carry", "lapse", "grace", "food", "wage"};
    private static final int[] LEAST = {0, 0, 0, 1, 0, 0, 0};
    private static final int[] MOST = {99, 99, 99, 400, 400, 99, 999};

    public static void main(String[] args) {
        int[] answered = new int[CALL_NAMES.length];
        int[] refused = new int[CALL_NAMES.length];
        for (int seed = 0; seed < RUNS; seed++) {
            String wrong = new Run(seed).go(answered, refused);
            if (wrong != null) {
                System.out.println("run of seed " + seed + ": " + wrong);
                System.exit(1);
            }
        }
        for (int i = 0; i < CALL_NAMES.length; i++) {
            if (answered[i] == 0 || refused[i] == 0 && !CALL_NAMES[i].matches("payments|even")) {
                System.out.println("the runs never try all of " + CALL_NAMES[i]);
                System.exit(1);
            }
        }
        System.out.println(RUNS + " runs are as the model's");
    }

    private static final String[] CALL_NAMES = {
        "house", "field", "loss", "feed", "end", "custom", "fault", "says", "ill", "work", "hire", "days",
        "houseOf", "fieldOf", "owes", "oldest", "payments", "payment", "even", "plan", "planned", "about"};

    /** How often each call comes, by the kinds of runs: mixed, many debts, many plans. */
    private static final int[][] WEIGHTS = {
        {4, 5, 3, 4, 2, 3, 3, 4, 3, 40, 8, 6, 12, 8, 10, 8, 4, 10, 1, 0, 4, 6},
        {6, 6, 1, 0, 0, 0, 0, 1, 0, 300, 1, 6, 6, 1, 6, 6, 4, 6, 1, 0, 0, 8},
        {3, 8, 10, 0, 0, 0, 0, 1, 1, 8, 6, 6, 1, 6, 1, 1, 1, 1, 1, 8, 40, 2}};

    private static final class Run {
        private final Random random;
        private final int kind;
        private final HandsReturned real = new HandsReturned();
        private final Model model = new Model();
        private final List<Integer> waitingBytes = new ArrayList<>();

        Run(int seed) {
            random = new Random(seed);
            kind = seed % 3;
        }

        String go(int[] answered, int[] refused) {
            for (int i = 0; i < CALLS; i++) {
                int call = pick();
                int[] a = arguments(call);
                int got = callReal(call, a);
                int want = callModel(call, a);
                if (got != want) {
                    return "call " + i + ", " + CALL_NAMES[call] + Arrays.toString(a) + " answered " + got
                        + ", due is " + want;
                }
                if (got == -1 || got == -1000000 || got == 0 && CALL_NAMES[call].matches("ill|loss")) {
                    refused[call]++;
                } else {
                    answered[call]++;
                }
            }
            return null;
        }

        private int pick() {
            int[] weights = WEIGHTS[kind];
            int at = random.nextInt(Arrays.stream(weights).sum());
            for (int i = 0; i < weights.length; i++) {
                at -= weights[i];
                if (at < 0) {
                    return i;
                }
            }
            return 0;
        }

        /** A number that is mostly within the bounds, sometimes just outside, seldom wild. */
        private int around(int least, int most) {
            int r = random.nextInt(60);
            if (r == 0) {
                return least - 1;
            }
            if (r == 1) {
                return most + 1;
            }
            if (r == 2) {
                return random.nextInt();
            }
            return r == 3 ? most : least + random.nextInt(Math.max(1, most - least + 1));
        }

        private int[] arguments(int call) {
            int houses = Math.max(0, model.houses.size() - 1);
            int fields = Math.max(0, model.fields.size() - 1);
            switch (CALL_NAMES[call]) {
                case "house": return new int[] {kind == 1 ? 9 : around(1, 9), random.nextInt(2)};
                case "field": return new int[] {around(0, houses), around(0, 2), kind == 1 ? 60 : around(1, kind == 2 ? 8 : 60),
                    random.nextInt(3) == 0 ? around(0, 400) : around(0, Math.min(400, model.clock + 5)), around(0, 10000)};
                case "loss": return new int[] {around(0, 9), around(0, 100)};
                case "feed": return nextBytes();
                case "end": return new int[] {around(0, model.tape.size())};
                case "ill": return new int[] {around(0, houses), random.nextInt(4) == 0 ? around(0, 400) : around(0, 3)};
                case "work": return new int[] {around(0, houses), around(0, fields), around(1, kind == 1 ? 1 : 4)};
                case "hire": return new int[] {around(0, fields), around(1, 8)};
                case "days": return new int[] {random.nextInt(12) == 0 ? around(1, 100) : around(1, 3)};
                case "owes": case "oldest": return new int[] {around(0, houses), around(0, houses)};
                case "houseOf": return new int[] {around(0, houses), around(0, 9)};
                case "fieldOf": return new int[] {around(0, fields), around(0, 6)};
                case "payment": return new int[] {around(0, 4), around(0, 2)};
                case "plan": return new int[] {around(1, random.nextInt(4) == 0 ? 99 : 4)};
                case "planned": return new int[] {around(0, 5)};
                case "fault": return new int[] {around(0, 1)};
                case "says": return new int[] {around(0, 6)};
                case "about": return new int[] {random.nextBoolean() ? around(0, 5) : around(20, 29)};
                default: return new int[0];
            }
        }

        private int[] nextBytes() {
            if (waitingBytes.size() < 20) {
                for (byte b : text().getBytes(StandardCharsets.ISO_8859_1)) {
                    waitingBytes.add(b & 255);
                }
                while (waitingBytes.size() % 20 != 0) {
                    waitingBytes.add(32);
                }
            }
            int[] five = new int[5];
            for (int i = 0; i < 20; i++) {
                five[i / 4] = five[i / 4] << 8 | waitingBytes.remove(0);
            }
            return five;
        }

        private String text() {
            StringBuilder text = new StringBuilder();
            int clauses = 1 + random.nextInt(2);
            for (int i = 0; i < clauses; i++) {
                int w = random.nextInt(7);
                text.append(blanks()).append(random.nextInt(15) == 0 ? "rice" : NAMES[w]).append(blanks());
                text.append(around(LEAST[w], random.nextBoolean() ? Math.min(5, MOST[w]) : MOST[w])).append(blanks());
                text.append(random.nextInt(15) == 0 ? "" : ";");
            }
            if (random.nextInt(15) == 0) {
                text.setCharAt(random.nextInt(text.length()), (char) random.nextInt(256));
            }
            return text.toString();
        }

        private String blanks() {
            return " ".repeat(random.nextInt(3));
        }

        private int callReal(int call, int[] a) {
            switch (CALL_NAMES[call]) {
                case "house": return real.house(a[0], a[1] == 1);
                case "field": return real.field(a[0], a[1], a[2], a[3], a[4]);
                case "loss": return real.loss(a[0], a[1]) ? 1 : 0;
                case "feed": return real.feed(a[0], a[1], a[2], a[3], a[4]);
                case "end": return real.end(a[0]);
                case "custom": return real.custom();
                case "fault": return real.fault(a[0]);
                case "says": return real.says(a[0]);
                case "ill": return real.ill(a[0], a[1]) ? 1 : 0;
                case "work": return real.work(a[0], a[1], a[2]);
                case "hire": return real.hire(a[0], a[1]);
                case "days": return real.days(a[0]);
                case "houseOf": return real.houseOf(a[0], a[1]);
                case "fieldOf": return real.fieldOf(a[0], a[1]);
                case "owes": return real.owes(a[0], a[1]);
                case "oldest": return real.oldest(a[0], a[1]);
                case "payments": return real.payments();
                case "payment": return real.payment(a[0], a[1]);
                case "even": return real.even();
                case "plan": return real.plan(a[0]);
                case "planned": return real.planned(a[0]);
                default: return real.about(a[0]);
            }
        }

        private int callModel(int call, int[] a) {
            switch (CALL_NAMES[call]) {
                case "house": return model.house(a[0], a[1] == 1);
                case "field": return model.field(a[0], a[1], a[2], a[3], a[4]);
                case "loss": return model.loss(a[0], a[1]) ? 1 : 0;
                case "feed": return model.feed(a);
                case "end": return model.end(a[0]);
                case "custom": return model.custom();
                case "fault": return a[0] == 0 ? model.fault : a[0] == 1 ? model.place : -1;
                case "says": return a[0] < 0 || a[0] > 6 ? -1 : model.says[a[0]];
                case "ill": return model.ill(a[0], a[1]) ? 1 : 0;
                case "work": return model.work(a[0], a[1], a[2]);
                case "hire": return model.hire(a[0], a[1]);
                case "days": return model.days(a[0]);
                case "houseOf": return model.houseOf(a[0], a[1]);
                case "fieldOf": return model.fieldOf(a[0], a[1]);
                case "owes": return model.owes(a[0], a[1]);
                case "oldest": return model.oldest(a[0], a[1]);
                case "payments": return model.payments().size();
                case "payment": return model.payment(a[0], a[1]);
                case "even": return model.even();
                case "plan": return model.plan(a[0]);
                case "planned": return a[0] < 0 || a[0] >= model.planned.size() ? -1 : model.planned.get(a[0]);
                default: return model.about(a[0]);
            }
        }
    }

    private static final class House {
        int hands, ill, used, foodIn, foodOut, paid, lapsed;
        boolean widow;
    }

    private static final class Field {
        int house, kind, need, worked, ready, value, done = -1, proceeds = -1;
    }

    private static final class Debt {
        int from, to, day, units;
    }

    private static final class Model {
        final List<House> houses = new ArrayList<>();
        final List<Field> fields = new ArrayList<>();
        final List<Debt> debts = new ArrayList<>();
        final List<Integer> tape = new ArrayList<>();
        final int[] loss = new int[10];
        int[] says = {1, 1, 1, 400, 0, 0, 0};
        List<Integer> planned = List.of();
        int clock, hired, fault = -1, place = -1;

        boolean isHouse(int h) {
            return h >= 0 && h < houses.size();
        }

        int house(int hands, boolean widow) {
            if (hands < 1 || hands > 9 || houses.size() == 8) {
                return -1;
            }
            House h = new House();
            h.hands = hands;
            h.widow = widow;
            houses.add(h);
            return houses.size() - 1;
        }

        int field(int house, int kind, int need, int ready, int value) {
            if (!isHouse(house) || kind < 0 || kind > 2 || need < 1 || need > 60 || ready < 0 || ready > 400
                    || value < 0 || value > 10000 || fields.size() == 12) {
                return -1;
            }
            Field f = new Field();
            f.house = house;
            f.kind = kind;
            f.need = need;
            f.ready = ready;
            f.value = value;
            fields.add(f);
            return fields.size() - 1;
        }

        boolean loss(int late, int v) {
            if (late < 0 || late > 9 || v < 0 || v > 100) {
                return false;
            }
            loss[late] = v;
            return true;
        }

        int feed(int[] five) {
            if (tape.size() + 20 > 200) {
                return -1;
            }
            for (int i = 0; i < 20; i++) {
                tape.add(five[i / 4] >> 8 * (3 - i % 4) & 255);
            }
            return tape.size();
        }

        int end(int n) {
            if (n < 0 || n > tape.size()) {
                return -1;
            }
            tape.subList(n, tape.size()).clear();
            return n;
        }

        int custom() {
            StringBuilder bytes = new StringBuilder();
            for (int b : tape) {
                bytes.append((char) b);
            }
            tape.clear();
            String text = bytes.toString();
            Matcher tokens = Pattern.compile("[a-zA-Z]+|[0-9]+|[^ ]", Pattern.DOTALL).matcher(text);
            int[] told = {1, 1, 1, 400, 0, 0, 0};
            List<Integer> words = new ArrayList<>();
            int count = 0;
            fault = 0;
            place = -1;
            while (fault == 0 && tokens.find()) {
                fault = judge(tokens.group(), count % 3, words, told);
                place = fault == 0 ? -1 : tokens.start();
                count++;
            }
            if (fault == 0 && count % 3 != 0) {
                fault = 1;
                place = text.length();
            }
            if (fault != 0) {
                return -1;
            }
            says = told;
            return count / 3;
        }

        private static int judge(String token, int turn, List<Integer> words, int[] told) {
            if (turn == 0) {
                int w = Arrays.asList(NAMES).indexOf(token);
                int found = w < 0 ? 1 : words.contains(w) ? 2 : 0;
                words.add(w);
                return found;
            }
            if (turn == 2) {
                return token.equals(";") ? 0 : 1;
            }
            if (!token.matches("[0-9]+")) {
                return 1;
            }
            int w = words.get(words.size() - 1);
            java.math.BigInteger n = new java.math.BigInteger(token);
            if (n.bitLength() > 20 || n.intValue() < LEAST[w] || n.intValue() > MOST[w]) {
                return 3;
            }
            told[w] = n.intValue();
            return 0;
        }

        boolean ill(int house, int days) {
            if (!isHouse(house) || days < 0 || days > 400) {
                return false;
            }
            houses.get(house).ill = days;
            return true;
        }

        private boolean admits(int field, int n) {
            if (field < 0 || field >= fields.size() || n < 1) {
                return false;
            }
            Field f = fields.get(field);
            return clock >= f.ready && n <= f.need && f.worked + n <= f.need;
        }

        int work(int house, int field, int n) {
            if (!isHouse(house) || !admits(field, n) || debts.size() == 300) {
                return -1;
            }
            House h = houses.get(house);
            Field f = fields.get(field);
            if (h.ill > 0 || h.used + n > h.hands) {
                return -1;
            }
            h.used += n;
            if (f.house != house) {
                for (int unit = 0; unit < n * says[f.kind]; unit++) {
                    oweUnit(house, f.house);
                }
                h.foodIn += n * says[5];
                houses.get(f.house).foodOut += n * says[5];
            }
            return advance(f, n);
        }

        private void oweUnit(int worker, int owner) {
            Debt paidBack = null;
            Debt today = null;
            for (Debt d : debts) {
                if (d.from == worker && d.to == owner && (paidBack == null || d.day < paidBack.day)) {
                    paidBack = d;
                }
                if (d.from == owner && d.to == worker && d.day == clock) {
                    today = d;
                }
            }
            if (paidBack != null) {
                paidBack.units--;
                if (paidBack.units == 0) {
                    debts.remove(paidBack);
                }
                return;
            }
            if (today == null) {
                today = new Debt();
                today.from = owner;
                today.to = worker;
                today.day = clock;
                debts.add(0, today);
            }
            today.units++;
        }

        private int advance(Field f, int n) {
            f.worked += n;
            if (f.worked == f.need) {
                f.done = clock;
                f.proceeds = proceeds(f, clock);
            }
            return f.need - f.worked;
        }

        private int proceeds(Field f, int day) {
            return f.value * (100 - loss[Math.min(9, day - f.ready)]) / 100;
        }

        int hire(int field, int n) {
            if (!admits(field, n) || hired + n > 20) {
                return -1;
            }
            hired += n;
            Field f = fields.get(field);
            houses.get(f.house).paid += n * says[6];
            return advance(f, n);
        }

        int days(int n) {
            if (n < 1 || n > 100 || clock + n > 400) {
                return -1;
            }
            for (int i = 0; i < n; i++) {
                clock++;
                hired = 0;
                for (House h : houses) {
                    h.used = 0;
                    h.ill = h.ill > 0 ? h.ill - 1 : 0;
                }
                for (Debt d : debts) {
                    House h = houses.get(d.from);
                    if (lapses(d)) {
                        h.lapsed += d.units;
                    }
                }
                debts.removeIf(this::lapses);
            }
            return clock;
        }

        private boolean lapses(Debt d) {
            return clock - d.day > says[3] + (houses.get(d.from).widow ? says[4] : 0);
        }

        int owed(int a, int b) {
            return debts.stream().filter(d -> d.from == a && d.to == b).mapToInt(d -> d.units).sum();
        }

        int net(int h) {
            int net = 0;
            for (int other = 0; other < houses.size(); other++) {
                net += owed(other, h) - owed(h, other);
            }
            return net;
        }

        int houseOf(int house, int what) {
            if (!isHouse(house) || what < 0 || what > 9) {
                return -1000000;
            }
            House h = houses.get(house);
            int gained = fields.stream().filter(f -> f.house == house && f.done >= 0).mapToInt(f -> f.proceeds).sum();
            int free = h.ill > 0 ? 0 : h.hands - h.used;
            return new int[] {h.hands, h.widow ? 1 : 0, h.ill, free, net(house), h.foodIn, h.foodOut, h.paid,
                h.lapsed, gained}[what];
        }

        int fieldOf(int field, int what) {
            if (field < 0 || field >= fields.size() || what < 0 || what > 6) {
                return -1;
            }
            Field f = fields.get(field);
            return new int[] {f.house, f.kind, f.need - f.worked, f.ready, f.value, f.done, f.proceeds}[what];
        }

        int owes(int a, int b) {
            return !isHouse(a) || !isHouse(b) || a == b ? -1 : owed(a, b);
        }

        int oldest(int a, int b) {
            return debts.stream().filter(d -> d.from == a && d.to == b).mapToInt(d -> d.day).min().orElse(-1);
        }

        /** Tries all ways to part the houses, and keeps the first of the most groups. */
        List<int[]> payments() {
            int[] nets = new int[houses.size()];
            int rest = 0;
            for (int h = 0; h < nets.length; h++) {
                nets[h] = net(h);
                rest |= nets[h] == 0 ? 0 : 1 << h;
            }
            List<int[]> told = new ArrayList<>();
            for (int group : part(rest, nets)) {
                payWithin(group, nets, told);
            }
            return told;
        }

        private static List<Integer> part(int rest, int[] nets) {
            List<Integer> best = new ArrayList<>();
            for (int group = 1; group <= rest; group++) {
                if ((group & rest) != group || (group & Integer.lowestOneBit(rest)) == 0 || sum(group, nets) != 0) {
                    continue;
                }
                List<Integer> way = new ArrayList<>(List.of(group));
                way.addAll(part(rest & ~group, nets));
                if (way.size() > best.size()) {
                    best = way;
                }
            }
            return best;
        }

        private static int sum(int group, int[] nets) {
            int sum = 0;
            for (int h = 0; h < nets.length; h++) {
                sum += (group >> h & 1) * nets[h];
            }
            return sum;
        }

        private static void payWithin(int group, int[] nets, List<int[]> told) {
            for (int from = 0; from < nets.length; from++) {
                for (int to = 0; to < nets.length; to++) {
                    boolean both = (group >> from & 1) == 1 && (group >> to & 1) == 1;
                    if (both && nets[from] < 0 && nets[to] > 0) {
                        int units = Math.min(-nets[from], nets[to]);
                        nets[from] += units;
                        nets[to] -= units;
                        told.add(new int[] {from, to, units});
                    }
                }
            }
        }

        int payment(int i, int what) {
            List<int[]> told = payments();
            return i < 0 || i >= told.size() || what < 0 || what > 2 ? -1 : told.get(i)[what];
        }

        int even() {
            int there = debts.size();
            debts.clear();
            return there;
        }

        int plan(int h) {
            List<Integer> waiting = new ArrayList<>();
            for (int f = 0; f < fields.size(); f++) {
                if (fields.get(f).done < 0) {
                    waiting.add(f);
                }
            }
            if (h < 1 || h > 99 || waiting.size() > 7) {
                return -1;
            }
            Orders orders = new Orders(this, h);
            orders.tryAll(new ArrayList<>(), waiting);
            planned = orders.best;
            return orders.least;
        }

        int about(int what) {
            if (what >= 20 && what <= 29) {
                return loss[what - 20];
            }
            if (what < 0 || what > 5) {
                return -1;
            }
            return new int[] {houses.size(), fields.size(), clock, debts.size(), hired, tape.size()}[what];
        }
    }

    /** All orders of the fields that wait, the first by numbers first, each gone through day by day. */
    private static final class Orders {
        private final Model model;
        private final int hands;
        int least = Integer.MAX_VALUE;
        List<Integer> best = List.of();

        Orders(Model model, int hands) {
            this.model = model;
            this.hands = hands;
        }

        void tryAll(List<Integer> order, List<Integer> rest) {
            if (rest.isEmpty()) {
                int lost = lost(order);
                if (lost < least) {
                    least = lost;
                    best = new ArrayList<>(order);
                }
            }
            for (int f : rest) {
                List<Integer> longer = new ArrayList<>(order);
                List<Integer> fewer = new ArrayList<>(rest);
                longer.add(f);
                fewer.remove((Integer) f);
                tryAll(longer, fewer);
            }
        }

        private int lost(List<Integer> order) {
            int[] lacks = new int[order.size()];
            int undone = order.size();
            int lost = 0;
            for (int i = 0; i < lacks.length; i++) {
                Field f = model.fields.get(order.get(i));
                lacks[i] = f.need - f.worked;
            }
            for (int day = model.clock; undone > 0; day++) {
                int free = hands;
                for (int i = 0; i < lacks.length; i++) {
                    Field f = model.fields.get(order.get(i));
                    if (lacks[i] == 0 || day < f.ready) {
                        continue;
                    }
                    int go = Math.min(free, lacks[i]);
                    free -= go;
                    lacks[i] -= go;
                    if (lacks[i] == 0) {
                        undone--;
                        lost += f.value - model.proceeds(f, day);
                    }
                }
            }
            return lost;
        }
    }
}
