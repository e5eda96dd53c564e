/** A valley whose houses plant and reap each other's rice and return the work by a custom. */
public final class HandsReturned {
    public static final int NONE = -1;

    private static final int NO_HOUSE_ANSWER = -1000000;
    private static final int LAST_DAY = 400;
    private static final int MOST_DAYS_AT_ONCE = 100;
    private static final int MOST_HOUSES = 8;
    private static final int MOST_HANDS = 9;
    private static final int MOST_FIELDS = 12;
    private static final int KINDS = 3;
    private static final int MOST_NEED = 60;
    private static final int MOST_VALUE = 10000;
    private static final int LATEST = 9;
    private static final int HUNDRED = 100;
    private static final int MOST_HIRED = 20;
    private static final int MOST_DEBTS = 300;
    private static final int MOST_BYTES = 200;
    private static final int BYTES_FED = 20;
    private static final int MOST_PLANNED = 7;
    private static final int MOST_PLAN_HANDS = 99;
    private static final int ABOUT_LOSS = 20;

    // The WORDS of THE CUSTOM, numbered as says() tells them; the three KINDS of work come first.
    private static final int WORDS = 7;
    private static final int LAPSE = 3;
    private static final int GRACE = 4;
    private static final int FOOD = 5;
    private static final int WAGE = 6;
    private static final int[] LEAST_TOLD = {0, 0, 0, 1, 0, 0, 0};
    private static final int[] MOST_TOLD = {99, 99, 99, 400, 400, 99, 999};
    private static final int[] UNTOLD = {1, 1, 1, 400, 0, 0, 0};

    private final House[] houses;
    private final Field[] fields;
    private final int[] losses;
    private final Tape tape;
    private final Custom customs;
    private final Debts debts;
    private final Evening evening;
    private final Plan order;
    private int houseCount;
    private int fieldCount;
    private int clock;
    private int hired;

    public HandsReturned() {
        // All rows are filled here once, so that none of their places is ever null.
        houses = new House[MOST_HOUSES];
        for (int i = 0; i < MOST_HOUSES; i++) {
            houses[i] = new House();
        }
        fields = new Field[MOST_FIELDS];
        for (int i = 0; i < MOST_FIELDS; i++) {
            fields[i] = new Field();
        }
        losses = new int[LATEST + 1];
        tape = new Tape();
        customs = new Custom();
        debts = new Debts();
        evening = new Evening();
        order = new Plan();
    }

    public int house(int hands, boolean widow) {
        if (hands < 1 || hands > MOST_HANDS || houseCount >= MOST_HOUSES) {
            return NONE;
        }
        House made = houses[houseCount];
        made.hands = hands;
        made.widow = widow;
        houseCount++;
        return houseCount - 1;
    }

    public int field(int house, int kind, int need, int ready, int value) {
        if (houseAt(house) == null || fieldCount >= MOST_FIELDS) {
            return NONE;
        }
        if (!within(kind, 0, KINDS - 1) || !within(need, 1, MOST_NEED)
                || !within(ready, 0, LAST_DAY) || !within(value, 0, MOST_VALUE)) {
            return NONE;
        }
        Field made = fields[fieldCount];
        made.owner = house;
        made.kind = kind;
        made.lacks = need;
        made.ready = ready;
        made.value = value;
        fieldCount++;
        return fieldCount - 1;
    }

    public boolean loss(int late, int v) {
        if (!within(late, 0, LATEST) || !within(v, 0, HUNDRED)) {
            return false;
        }
        losses[late] = v;
        return true;
    }

    public int feed(int a, int b, int c, int d, int e) {
        if (tape.length > MOST_BYTES - BYTES_FED) {
            return NONE;
        }
        tape.append(a);
        tape.append(b);
        tape.append(c);
        tape.append(d);
        tape.append(e);
        return tape.length;
    }

    public int end(int n) {
        if (!within(n, 0, tape.length)) {
            return NONE;
        }
        tape.length = n;
        return n;
    }

    public int custom() {
        int clauses = customs.read(tape);
        tape.length = 0;
        return clauses;
    }

    public int fault(int what) {
        switch (what) {
            case 0:
                return customs.flaw;
            case 1:
                return customs.place;
            default:
                return NONE;
        }
    }

    public int says(int what) {
        return within(what, 0, WORDS - 1) ? customs.told[what] : NONE;
    }

    public boolean ill(int house, int days) {
        House sick = houseAt(house);
        if (sick == null || !within(days, 0, LAST_DAY)) {
            return false;
        }
        sick.daysIll = days;
        return true;
    }

    public int work(int house, int field, int n) {
        House worker = houseAt(house);
        Field place = fieldAt(field);
        if (worker == null || place == null || debts.count >= MOST_DEBTS) {
            return NONE;
        }
        if (!place.takes(n, clock) || n > worker.freeHands()) {
            return NONE;
        }
        worker.busy += n;
        if (place.owner != house) {
            oweForWork(house, place, n);
        }
        return workDone(place, n);
    }

    public int hire(int field, int n) {
        Field place = fieldAt(field);
        if (place == null || !place.takes(n, clock) || n > MOST_HIRED - hired) {
            return NONE;
        }
        hired += n;
        House owner = houseAt(place.owner);
        if (owner != null) {
            owner.wages += n * customs.told[WAGE];
        }
        return workDone(place, n);
    }

    public int days(int n) {
        if (!within(n, 1, MOST_DAYS_AT_ONCE) || n > LAST_DAY - clock) {
            return NONE;
        }
        for (int i = 0; i < n; i++) {
            nextDay();
        }
        return clock;
    }

    public int houseOf(int house, int what) {
        House told = houseAt(house);
        if (told == null) {
            return NO_HOUSE_ANSWER;
        }
        switch (what) {
            case 0:
                return told.hands;
            case 1:
                return told.widow ? 1 : 0;
            case 2:
                return told.daysIll;
            case 3:
                return told.freeHands();
            case 4:
                return debts.net(house);
            case 5:
                return told.foodDue;
            case 6:
                return told.foodOwed;
            case 7:
                return told.wages;
            case 8:
                return told.lapsed;
            case 9:
                return told.proceeds;
            default:
                return NO_HOUSE_ANSWER;
        }
    }

    public int fieldOf(int field, int what) {
        Field told = fieldAt(field);
        if (told == null) {
            return NONE;
        }
        switch (what) {
            case 0:
                return told.owner;
            case 1:
                return told.kind;
            case 2:
                return told.lacks;
            case 3:
                return told.ready;
            case 4:
                return told.value;
            case 5:
                return told.doneOn;
            case 6:
                return told.proceeds;
            default:
                return NONE;
        }
    }

    public int owes(int a, int b) {
        return areTwoHouses(a, b) ? debts.unitsOwed(a, b) : NONE;
    }

    public int oldest(int a, int b) {
        return areTwoHouses(a, b) ? debts.firstDay(a, b) : NONE;
    }

    public int payments() {
        evening.tellFor(debts);
        return evening.count;
    }

    public int payment(int i, int what) {
        evening.tellFor(debts);
        if (!within(i, 0, evening.count - 1)) {
            return NONE;
        }
        switch (what) {
            case 0:
                return evening.payers[i];
            case 1:
                return evening.payees[i];
            case 2:
                return evening.units[i];
            default:
                return NONE;
        }
    }

    public int even() {
        int settled = debts.count;
        debts.count = 0;
        return settled;
    }

    public int plan(int h) {
        if (!within(h, 1, MOST_PLAN_HANDS) || waitingFields() > MOST_PLANNED) {
            return NONE;
        }
        order.begin(clock, h);
        for (int i = 0; i < fieldCount; i++) {
            if (fields[i].lacks > 0) {
                order.take(i, fields[i]);
            }
        }
        return order.choose(losses);
    }

    public int planned(int i) {
        return within(i, 0, order.chosenCount - 1) ? order.chosen[i] : NONE;
    }

    public int about(int what) {
        switch (what) {
            case 0:
                return houseCount;
            case 1:
                return fieldCount;
            case 2:
                return clock;
            case 3:
                return debts.count;
            case 4:
                return hired;
            case 5:
                return tape.length;
            default:
                return within(what, ABOUT_LOSS, ABOUT_LOSS + LATEST) ? losses[what - ABOUT_LOSS] : NONE;
        }
    }

    private static boolean within(int x, int least, int most) {
        return x >= least && x <= most;
    }

    private static int proceedsOf(int value, int late, int[] losses) {
        int k = Math.max(0, Math.min(late, LATEST));
        int lost = k < losses.length ? losses[k] : 0;
        return value * (HUNDRED - lost) / HUNDRED;
    }

    private House houseAt(int house) {
        return within(house, 0, houseCount - 1) ? houses[house] : null;
    }

    private Field fieldAt(int field) {
        return within(field, 0, fieldCount - 1) ? fields[field] : null;
    }

    private boolean areTwoHouses(int a, int b) {
        return a != b && houseAt(a) != null && houseAt(b) != null;
    }

    private void oweForWork(int workerNumber, Field place, int n) {
        House worker = houseAt(workerNumber);
        House owner = houseAt(place.owner);
        if (worker == null || owner == null || !within(place.kind, 0, KINDS - 1)) {
            return;
        }
        int left = debts.lessen(workerNumber, place.owner, n * customs.told[place.kind]);
        debts.put(place.owner, workerNumber, clock, left);
        int food = n * customs.told[FOOD];
        worker.foodDue += food;
        owner.foodOwed += food;
    }

    private int workDone(Field place, int n) {
        place.lacks -= n;
        if (place.lacks == 0) {
            place.doneOn = clock;
            place.proceeds = proceedsOf(place.value, clock - place.ready, losses);
            House owner = houseAt(place.owner);
            if (owner != null) {
                owner.proceeds += place.proceeds;
            }
        }
        return place.lacks;
    }

    private void nextDay() {
        clock++;
        hired = 0;
        for (int i = 0; i < houseCount; i++) {
            houses[i].busy = 0;
            houses[i].daysIll = Math.max(0, houses[i].daysIll - 1);
        }
        lapseDebts();
    }

    private void lapseDebts() {
        for (int i = 0; i < debts.count; i++) {
            House owing = houseAt(debts.owers[i]);
            if (owing == null) {
                continue;
            }
            int patience = customs.told[LAPSE] + (owing.widow ? customs.told[GRACE] : 0);
            if (clock - debts.since[i] > patience) {
                owing.lapsed += debts.units[i];
                debts.units[i] = 0;
            }
        }
        debts.dropEmpty();
    }

    private int waitingFields() {
        int waiting = 0;
        for (int i = 0; i < fieldCount; i++) {
            if (fields[i].lacks > 0) {
                waiting++;
            }
        }
        return waiting;
    }

    private static final class House {
        private int hands;
        private boolean widow;
        private int daysIll;
        private int busy;
        private int foodDue;
        private int foodOwed;
        private int wages;
        private int lapsed;
        private int proceeds;

        private int freeHands() {
            return daysIll > 0 ? 0 : hands - busy;
        }
    }

    private static final class Field {
        private int owner;
        private int kind;
        private int lacks;
        private int ready;
        private int value;
        private int doneOn = NONE;
        private int proceeds = NONE;

        private boolean takes(int n, int day) {
            return day >= ready && n >= 1 && n <= lacks;
        }
    }

    /** The bytes that were fed and not yet read. */
    private static final class Tape {
        private final int[] bytes = new int[MOST_BYTES];
        private int length;

        private void append(int four) {
            for (int shift = 24; shift >= 0 && length < MOST_BYTES; shift -= 8) {
                bytes[length] = (four >>> shift) & 255;
                length++;
            }
        }

        /** The byte at a place; a blank outside, which ends every token. */
        private int at(int place) {
            return place >= 0 && place < length && place < MOST_BYTES ? bytes[place] : ' ';
        }
    }

    /** THE CUSTOM that holds, and the reading of a new one. */
    private static final class Custom {
        private static final int BLANK = 0;
        private static final int LETTER = 1;
        private static final int DIGIT = 2;
        private static final int STOP = 3;
        private static final int OTHER = 4;

        private static final int MISPLACED = 1;
        private static final int TWICE = 2;
        private static final int UNTELLABLE = 3;

        // More than any number that may be told: longer ones count as this, so that none wraps round.
        private static final int TOO_MUCH = 1000;

        private final int[] told = new int[WORDS];
        private final int[] draft = new int[WORDS];
        private int flaw = NONE;
        private int place = NONE;
        private int wanted;
        private int word;
        private int seen;
        private int clauses;

        private Custom() {
            System.arraycopy(UNTOLD, 0, told, 0, WORDS);
        }

        /** Reads the tape; how many clauses it has, or NONE, and then the former custom stays. */
        private int read(Tape tape) {
            System.arraycopy(UNTOLD, 0, draft, 0, WORDS);
            flaw = 0;
            place = NONE;
            wanted = LETTER;
            word = NONE;
            seen = 0;
            clauses = 0;
            for (int at = 0; at < tape.length && flaw == 0; at++) {
                if (beginsToken(tape, at)) {
                    note(takeToken(tape, at), at);
                }
            }
            if (flaw == 0 && wanted != LETTER) {
                note(MISPLACED, tape.length);
            }
            if (flaw != 0) {
                return NONE;
            }
            System.arraycopy(draft, 0, told, 0, WORDS);
            return clauses;
        }

        private void note(int found, int at) {
            if (found != 0) {
                flaw = found;
                place = at;
            }
        }

        private static int sortOf(int b) {
            if (b == ' ') {
                return BLANK;
            }
            if (b >= 'a' && b <= 'z' || b >= 'A' && b <= 'Z') {
                return LETTER;
            }
            if (b >= '0' && b <= '9') {
                return DIGIT;
            }
            return b == ';' ? STOP : OTHER;
        }

        private static boolean beginsToken(Tape tape, int at) {
            int sort = sortOf(tape.at(at));
            if (sort == LETTER || sort == DIGIT) {
                return sort != sortOf(tape.at(at - 1));
            }
            return sort != BLANK;
        }

        private int takeToken(Tape tape, int at) {
            if (sortOf(tape.at(at)) != wanted) {
                return MISPLACED;
            }
            switch (wanted) {
                case LETTER:
                    return takeWord(tape, at);
                case DIGIT:
                    return takeNumber(tape, at);
                default:
                    clauses++;
                    wanted = LETTER;
                    return 0;
            }
        }

        private int takeWord(Tape tape, int at) {
            word = wordAt(tape, at);
            if (word == NONE) {
                return MISPLACED;
            }
            if ((seen & 1 << word) != 0) {
                return TWICE;
            }
            seen |= 1 << word;
            wanted = DIGIT;
            return 0;
        }

        private int takeNumber(Tape tape, int at) {
            int number = numberAt(tape, at);
            if (!within(word, 0, WORDS - 1) || !within(number, LEAST_TOLD[word], MOST_TOLD[word])) {
                return UNTELLABLE;
            }
            draft[word] = number;
            wanted = STOP;
            return 0;
        }

        private static int wordAt(Tape tape, int at) {
            for (int w = 0; w < WORDS; w++) {
                if (standsAt(spelling(w), tape, at)) {
                    return w;
                }
            }
            return NONE;
        }

        private static String spelling(int w) {
            switch (w) {
                case 0:
                    return "plant";
                case 1:
                    return "reap";
                case 2:
                    return "carry";
                case LAPSE:
                    return "lapse";
                case GRACE:
                    return "grace";
                case FOOD:
                    return "food";
                default:
                    return "wage";
            }
        }

        private static boolean standsAt(String name, Tape tape, int at) {
            int length = name.length();
            for (int i = 0; i < length; i++) {
                if (tape.at(at + i) != name.charAt(i)) {
                    return false;
                }
            }
            return sortOf(tape.at(at + length)) != LETTER;
        }

        private static int numberAt(Tape tape, int at) {
            int number = 0;
            for (int i = at; i < tape.length && sortOf(tape.at(i)) == DIGIT; i++) {
                number = Math.min(TOO_MUCH, number * 10 + tape.at(i) - '0');
            }
            return number;
        }
    }

    /** The DEBTS in the order in which they arose, and so the oldest first. */
    private static final class Debts {
        private final int[] owers = new int[MOST_DEBTS];
        private final int[] claimers = new int[MOST_DEBTS];
        private final int[] since = new int[MOST_DEBTS];
        private final int[] units = new int[MOST_DEBTS];
        private int count;

        private boolean isOf(int i, int ower, int claimer) {
            return owers[i] == ower && claimers[i] == claimer;
        }

        private int unitsOwed(int ower, int claimer) {
            int sum = 0;
            for (int i = 0; i < count; i++) {
                if (isOf(i, ower, claimer)) {
                    sum += units[i];
                }
            }
            return sum;
        }

        private int firstDay(int ower, int claimer) {
            for (int i = 0; i < count; i++) {
                if (isOf(i, ower, claimer)) {
                    return since[i];
                }
            }
            return NONE;
        }

        private int net(int house) {
            int sum = 0;
            for (int i = 0; i < count; i++) {
                if (claimers[i] == house) {
                    sum += units[i];
                } else if (owers[i] == house) {
                    sum -= units[i];
                }
            }
            return sum;
        }

        /** Lessens what is owed, the oldest first; how much of the units is left over. */
        private int lessen(int ower, int claimer, int amount) {
            int left = amount;
            for (int i = 0; i < count && left > 0; i++) {
                if (isOf(i, ower, claimer)) {
                    int part = Math.min(left, units[i]);
                    units[i] -= part;
                    left -= part;
                }
            }
            dropEmpty();
            return left;
        }

        private void put(int ower, int claimer, int day, int amount) {
            if (amount <= 0) {
                return;
            }
            for (int i = 0; i < count; i++) {
                if (isOf(i, ower, claimer) && since[i] == day) {
                    units[i] += amount;
                    return;
                }
            }
            if (count < MOST_DEBTS) {
                owers[count] = ower;
                claimers[count] = claimer;
                since[count] = day;
                units[count] = amount;
                count++;
            }
        }

        private void dropEmpty() {
            int kept = 0;
            for (int i = 0; i < count; i++) {
                if (units[i] > 0) {
                    owers[kept] = owers[i];
                    claimers[kept] = claimers[i];
                    since[kept] = since[i];
                    units[kept] = units[i];
                    kept++;
                }
            }
            count = kept;
        }
    }

    /** The fewest PAYMENTS. Sets of houses are numbers with bit h for house h. */
    private static final class Evening {
        private static final int SETS = 1 << MOST_HOUSES;

        private final int[] nets = new int[MOST_HOUSES];
        private final int[] freshNets = new int[MOST_HOUSES];
        private final int[] unsettled = new int[MOST_HOUSES];
        private final int[] netOfSet = new int[SETS];
        private final int[] groupsOfSet = new int[SETS];
        private final int[] payers = new int[MOST_HOUSES];
        private final int[] payees = new int[MOST_HOUSES];
        private final int[] units = new int[MOST_HOUSES];
        private int count;

        private void tellFor(Debts debts) {
            // The payments hang on the nets alone, so like nets keep the payments told before.
            if (takeNets(debts)) {
                tell();
            }
        }

        private boolean takeNets(Debts debts) {
            boolean changed = false;
            for (int h = 0; h < MOST_HOUSES; h++) {
                freshNets[h] = 0;
            }
            for (int i = 0; i < debts.count; i++) {
                if (within(debts.owers[i], 0, MOST_HOUSES - 1) && within(debts.claimers[i], 0, MOST_HOUSES - 1)) {
                    freshNets[debts.owers[i]] -= debts.units[i];
                    freshNets[debts.claimers[i]] += debts.units[i];
                }
            }
            for (int h = 0; h < MOST_HOUSES; h++) {
                if (nets[h] != freshNets[h]) {
                    nets[h] = freshNets[h];
                    changed = true;
                }
            }
            return changed;
        }

        private void tell() {
            count = 0;
            int rest = 0;
            for (int h = 0; h < MOST_HOUSES; h++) {
                unsettled[h] = nets[h];
                if (nets[h] != 0) {
                    rest |= 1 << h;
                }
            }
            countGroups();
            for (int turn = 0; turn < MOST_HOUSES && rest != 0; turn++) {
                int group = leastGroup(rest);
                payWithin(group);
                rest &= ~group;
            }
        }

        // A set's most groups are met by leaving its houses one by one in the best order:
        // each time that what remains comes to 0, one group more is complete.
        private void countGroups() {
            for (int set = 1; set < SETS; set++) {
                int net = 0;
                int most = 0;
                for (int h = 0; h < MOST_HOUSES; h++) {
                    if ((set & 1 << h) != 0) {
                        net += nets[h];
                        most = Math.max(most, groupsOfSet[set ^ 1 << h]);
                    }
                }
                netOfSet[set] = net;
                groupsOfSet[set] = net == 0 ? most + 1 : most;
            }
        }

        private int leastGroup(int rest) {
            int leastHouse = rest & -rest;
            for (int group = leastHouse; group < rest && group < SETS; group++) {
                boolean fits = (group & ~rest) == 0 && (group & leastHouse) != 0 && netOfSet[group] == 0;
                if (fits && groupsOfSet[rest ^ group] == groupsOfSet[rest] - 1) {
                    return group;
                }
            }
            return rest;
        }

        private void payWithin(int group) {
            for (int turn = 0; turn < MOST_HOUSES && count < MOST_HOUSES; turn++) {
                int payer = leastInGroup(group, -1);
                int payee = leastInGroup(group, 1);
                if (payer == NONE || payee == NONE) {
                    return;
                }
                int amount = Math.min(-unsettled[payer], unsettled[payee]);
                unsettled[payer] += amount;
                unsettled[payee] -= amount;
                payers[count] = payer;
                payees[count] = payee;
                units[count] = amount;
                count++;
            }
        }

        /** The least house of a group of which what is unsettled has the sign. */
        private int leastInGroup(int group, int sign) {
            for (int h = 0; h < MOST_HOUSES; h++) {
                if ((group & 1 << h) != 0 && unsettled[h] * sign > 0) {
                    return h;
                }
            }
            return NONE;
        }
    }

    /**
     * The best order of the fields that wait. They stand here sorted by the day on which their
     * work can begin; sets of them are numbers with bit k for the k-th.
     */
    private static final class Plan {
        private final int[] numbers = new int[MOST_PLANNED];
        private final int[] starts = new int[MOST_PLANNED];
        private final int[] lacks = new int[MOST_PLANNED];
        private final int[] readies = new int[MOST_PLANNED];
        private final int[] values = new int[MOST_PLANNED];
        private final int[] leastLost = new int[1 << MOST_PLANNED];
        private final int[] bestNext = new int[1 << MOST_PLANNED];
        private final int[] chosen = new int[MOST_PLANNED];
        private int chosenCount;
        private int count;
        private int today;
        private int hands;

        private void begin(int clock, int h) {
            count = 0;
            today = clock;
            hands = Math.max(1, h);
        }

        private void take(int number, Field field) {
            if (count >= MOST_PLANNED) {
                return;
            }
            int start = Math.max(today, field.ready);
            int at = count;
            for (int k = count; k > 0 && starts[k - 1] > start; k--) {
                move(k - 1, k);
                at = k - 1;
            }
            numbers[at] = number;
            starts[at] = start;
            lacks[at] = field.lacks;
            readies[at] = field.ready;
            values[at] = field.value;
            count++;
        }

        private void move(int from, int to) {
            numbers[to] = numbers[from];
            starts[to] = starts[from];
            lacks[to] = lacks[from];
            readies[to] = readies[from];
            values[to] = values[from];
        }

        // What a field loses hangs only on which fields go before it, not on their order among
        // themselves, for together they use the same hands on each day. So sets suffice.
        private int choose(int[] losses) {
            int all = (1 << count) - 1;
            leastLost[all] = 0;
            for (int before = all - 1; before >= 0; before--) {
                chooseNext(before, losses);
            }
            chosenCount = count;
            int before = 0;
            for (int i = 0; i < count; i++) {
                int k = bestNext[before];
                chosen[i] = numbers[k];
                before |= 1 << k;
            }
            return leastLost[0];
        }

        private void chooseNext(int before, int[] losses) {
            int best = NONE;
            int least = 0;
            for (int k = 0; k < count; k++) {
                int with = before | 1 << k;
                if (with == before) {
                    continue;
                }
                int late = dayDone(with, k) - readies[k];
                int lost = values[k] - proceedsOf(values[k], late, losses) + leastLost[with];
                if (best == NONE || lost < least || lost == least && numbers[k] < numbers[best]) {
                    best = k;
                    least = lost;
                }
            }
            leastLost[before] = least;
            bestNext[before] = Math.max(0, best);
        }

        // The last of a set is done on the first day, from its own start on, that leaves
        // nothing of the whole set undone.
        private int dayDone(int set, int last) {
            int day = today;
            int undone = 0;
            for (int k = 0; k < count; k++) {
                if ((set & 1 << k) == 0) {
                    continue;
                }
                int room = hands * (starts[k] - day);
                if (k > last && room >= undone) {
                    break;
                }
                undone = Math.max(0, undone - room) + lacks[k];
                day = starts[k];
            }
            return hands > 0 ? day + (undone - 1) / hands : day;
        }
    }
}
