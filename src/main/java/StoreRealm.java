import java.util.Arrays;

/**
 * A realm's storehouses: goods that age, standing orders that move them, feasts fed from lots,
 * labour called by tens, and counts told by keepers.
 *
 * Every row that a call needs is made with the object and used again, so that no call makes any.
 */
public final class StoreRealm {
    public static final int NONE = -1;

    private static final int MOST_TOWNS = 8;
    private static final int MOST_ROOM = 100000;
    private static final int MOST_PEOPLE = 1000;
    private static final int MOST_TENS = 500;
    private static final int MOST_DAYS = 200;
    private static final int DAYS_OF_A_MONTH = 30;

    private static final int KINDS = 3;
    private static final int MAIZE = 0;
    private static final int CLOTH = 1;
    private static final int MEAT = 2;
    private static final int OLDEST = 60;
    private static final int MOST_PUT = 100000;

    private static final int MOST_MONTHS_AT_ONCE = 60;
    private static final int LAST_MONTH = 2000;
    private static final int MOST_LOADS = 60;

    private static final int MOST_BYTES = 1000;
    private static final int BYTES_OF_A_FEED = 20;
    private static final int MOST_LINES = 12;
    private static final int MOST_TERMS = 80;
    private static final int MOST_WITHIN = 8;
    private static final int MOST_LETTERS = 8;
    private static final int MOST_DIGITS = 6;
    private static final int LAST_TOWN_DIGIT = '0' + MOST_TOWNS - 1;

    private static final int FAULT_NO_TOKEN = 1;
    private static final int FAULT_CANNOT_STAND = 2;
    private static final int FAULT_ALIKE = 3;

    // What a token is; a sign is its own character, and all signs are above these.
    private static final int THE_END = 0;
    private static final int NO_TOKEN = 1;
    private static final int NUMBER = 2;
    private static final int TOWN_NAME = 3;
    private static final int KIND_NAME = 4;
    private static final int OTHER_WORD = 5;
    private static final int WHEN = 6;
    private static final int MOVE = 7;
    private static final int FROM = 8;
    private static final int TO = 9;
    private static final int OR = 10;
    private static final int AND = 11;
    private static final int NOT = 12;
    private static final int MONTH = 13;
    private static final int PEOPLE = 14;
    private static final int STOCK = 15;
    private static final int OLD = 16;
    private static final int ROOM = 17;

    private static final int MOST_FEASTS = 10;
    private static final int MOST_FEAST_MEASURES = 10000;

    private static final int MOST_HANDS_AT_ONCE = 1000;
    private static final int MOST_HANDS = 100000;

    private static final int KEEPERS = 5;
    private static final int MOST_COUNTS = 60;
    private static final int GREATEST_COUNT = 1000000;

    private final Land land = new Land();
    private final Tally tally = new Tally();
    private final Carriers carriers = new Carriers();
    private final byte[] tape = new byte[MOST_BYTES];
    private int tapeLength;
    private final OrderBook book = new OrderBook();
    private final Feasts feasts = new Feasts();
    private final Planner planner = new Planner();
    private final Ledger ledger = new Ledger();

    public StoreRealm() {
    }

    public int town(int room, int people, int tens) {
        if (!within(room, 0, MOST_ROOM) || !within(people, 0, MOST_PEOPLE) || !within(tens, 0, MOST_TENS)) {
            return NONE;
        }
        return land.found(room, people, tens);
    }

    public boolean way(int a, int b, int days) {
        if (!land.hasTown(a) || !land.hasTown(b) || a == b) {
            return false;
        }
        if (days != NONE && !within(days, 1, MOST_DAYS)) {
            return false;
        }
        land.days[a][b] = days;
        land.days[b][a] = days;
        return true;
    }

    public boolean keeps(int kind, int months) {
        if (!isKind(kind) || !within(months, 1, OLDEST)) {
            return false;
        }
        land.keeping[kind] = months;
        return true;
    }

    public int put(int town, int kind, int age, int measures) {
        if (!land.hasTown(town) || !isKind(kind) || !within(age, 0, OLDEST) || !within(measures, 1, MOST_PUT)) {
            return NONE;
        }
        int stored = land.towns[town].store(kind, age, measures);
        tally.lost += measures - stored;
        return stored;
    }

    public int take(int town, int kind, int measures) {
        if (!land.hasTown(town) || !isKind(kind) || !within(measures, 1, MOST_PUT)) {
            return NONE;
        }
        return land.towns[town].removeOldest(kind, measures);
    }

    public int stock(int town, int kind, int age) {
        if (!land.hasTown(town) || !isKind(kind)) {
            return NONE;
        }
        if (age == NONE) {
            return land.towns[town].held[kind];
        }
        return within(age, 0, OLDEST) ? land.towns[town].lots[kind][age] : NONE;
    }

    public int feed(int a, int b, int c, int d, int e) {
        if (tapeLength + BYTES_OF_A_FEED > MOST_BYTES) {
            return NONE;
        }
        write(a);
        write(b);
        write(c);
        write(d);
        write(e);
        return tapeLength;
    }

    public int end(int n) {
        if (!within(n, 0, tapeLength)) {
            return NONE;
        }
        tapeLength = n;
        return n;
    }

    public int orders() {
        int length = tapeLength;
        tapeLength = 0;
        return book.read(tape, length);
    }

    public int fault(int what) {
        switch (what) {
            case 0:
                return book.faultKind;
            case 1:
                return book.faultPlace;
            default:
                return NONE;
        }
    }

    public int months(int n) {
        if (!within(n, 0, MOST_MONTHS_AT_ONCE) || land.month + n > LAST_MONTH) {
            return NONE;
        }
        for (int passed = 0; passed < n; passed++) {
            passMonth();
        }
        return land.month;
    }

    public int sum(int what) {
        switch (what) {
            case 0:
                return tally.hunger;
            case 1:
                return tally.spoilt;
            case 2:
                return tally.lost;
            case 3:
                return carriers.allMeasures();
            case 4:
                return carriers.size;
            case 5:
                return tally.arrived;
            default:
                return NONE;
        }
    }

    public int feast(int town, int month, int kind, int measures) {
        if (!land.hasTown(town) || !within(month, land.month, LAST_MONTH)) {
            return NONE;
        }
        if (!isKind(kind) || !within(measures, 1, MOST_FEAST_MEASURES)) {
            return NONE;
        }
        return feasts.add(town, month, kind, measures);
    }

    public boolean cancel() {
        if (feasts.size == 0) {
            return false;
        }
        feasts.size--;
        return true;
    }

    public int fed() {
        planner.plan(land, feasts);
        return planner.measuresGiven;
    }

    public int carried() {
        planner.plan(land, feasts);
        return planner.measureDays;
    }

    public int call(int hands) {
        if (!within(hands, 1, MOST_HANDS_AT_ONCE) || land.hands + hands > MOST_HANDS) {
            return NONE;
        }
        int tens = land.allTens();
        if (tens == 0) {
            return NONE;
        }
        for (int hand = 0; hand < hands; hand++) {
            land.takeHand(tens);
        }
        return land.hands;
    }

    public int gave(int town) {
        return land.hasTown(town) ? land.towns[town].handsGiven : NONE;
    }

    public int tell(int keeper, int town, int kind, int month, int count) {
        if (!within(keeper, 0, KEEPERS - 1) || !land.hasTown(town) || !isKind(kind)) {
            return NONE;
        }
        if (!within(month, 0, land.month) || !within(count, 0, GREATEST_COUNT)) {
            return NONE;
        }
        return ledger.add(keeper, subject(town, kind), month, count, land.month);
    }

    public boolean untell(int count) {
        return ledger.withdraw(count, land.month);
    }

    public int count(int town, int kind, int month, int k) {
        if (!land.hasTown(town) || !isKind(kind)) {
            return NONE;
        }
        ledger.hear(subject(town, kind), month, k);
        return ledger.bestCount;
    }

    public int agree(int town, int kind, int month, int k) {
        if (!land.hasTown(town) || !isKind(kind)) {
            return 0;
        }
        ledger.hear(subject(town, kind), month, k);
        return ledger.bestVoices;
    }

    public int of(int town, int what) {
        if (!land.hasTown(town)) {
            return NONE;
        }
        Town asked = land.towns[town];
        switch (what) {
            case 0:
                return asked.room;
            case 1:
                return asked.people;
            case 2:
                return asked.tens;
            case 3:
                return asked.roomLeft();
            default:
                return within(what, 10, 9 + land.townCount) ? land.days[town][what - 10] : NONE;
        }
    }

    public int about(int what) {
        switch (what) {
            case 0:
                return land.month;
            case 1:
                return land.townCount;
            case 2:
                return book.ruling.lines;
            case 3:
                return feasts.size;
            case 4:
                return land.hands;
            case 5:
                return ledger.size;
            case 6:
                return tapeLength;
            default:
                return within(what, 10, 9 + KINDS) ? land.keeping[what - 10] : NONE;
        }
    }

    private void write(int four) {
        for (int shift = 24; shift >= 0 && tapeLength < MOST_BYTES; shift -= 8) {
            tape[tapeLength] = (byte) (four >> shift);
            tapeLength++;
        }
    }

    private void passMonth() {
        carriers.arrive(land, tally);
        carriers.grow();
        land.growLots(tally);
        land.eat(tally);
        for (int line = 0; line < book.ruling.lines; line++) {
            if (book.ruling.holds(line, land)) {
                obey(book.ruling, line);
            }
        }
        land.month++;
    }

    private void obey(Orders orders, int line) {
        int from = orders.from[line];
        int to = orders.to[line];
        if (!land.hasTown(from) || !land.hasTown(to) || land.days[from][to] == NONE) {
            return;
        }
        int kind = orders.kind[line];
        int arrival = land.month + monthsOnTheWay(land.days[from][to]);
        int left = orders.measures[line];
        Town sender = land.towns[from];
        for (int age = OLDEST; age >= 0 && left > 0 && carriers.size < MOST_LOADS; age--) {
            int part = sender.removeOfAge(kind, age, left);
            if (part > 0) {
                carriers.send(to, kind, age, part, arrival);
                left -= part;
            }
        }
    }

    private static boolean within(int value, int least, int most) {
        return value >= least && value <= most;
    }

    private static boolean isKind(int kind) {
        return within(kind, 0, KINDS - 1);
    }

    /** One number for a kind in a town's store. */
    private static int subject(int town, int kind) {
        return town * KINDS + kind;
    }

    private static int monthsOnTheWay(int days) {
        return (days + DAYS_OF_A_MONTH - 1) / DAYS_OF_A_MONTH;
    }

    /** What is summed over all months. */
    private static final class Tally {
        int hunger;
        int spoilt;
        int lost;
        int arrived;
    }

    /** A town and the lots in its store. */
    private static final class Town {
        int room;
        int people;
        int tens;
        int handsGiven;
        final int[] held = new int[KINDS];
        final int[][] lots = new int[KINDS][OLDEST + 1];

        int roomLeft() {
            return room - held[MAIZE] - held[CLOTH] - held[MEAT];
        }

        /** Answers how many measures there was room for. */
        int store(int kind, int age, int measures) {
            int stored = Math.min(measures, roomLeft());
            lots[kind][age] += stored;
            held[kind] += stored;
            return stored;
        }

        /** Answers how many measures of that age there were, the wanted number at most. */
        int removeOfAge(int kind, int age, int wanted) {
            int part = Math.min(wanted, lots[kind][age]);
            lots[kind][age] -= part;
            held[kind] -= part;
            return part;
        }

        int removeOldest(int kind, int wanted) {
            int left = Math.min(wanted, held[kind]);
            int removed = 0;
            for (int age = OLDEST; age >= 0 && left > 0; age--) {
                int part = removeOfAge(kind, age, left);
                removed += part;
                left -= part;
            }
            return removed;
        }

        int measuresOfTheOldest(int kind) {
            for (int age = OLDEST; age >= 0 && held[kind] > 0; age--) {
                if (lots[kind][age] > 0) {
                    return lots[kind][age];
                }
            }
            return 0;
        }

        /** Makes the lots of a kind a month older, and answers how many measures are spoilt by it. */
        int grow(int kind, int keeping) {
            int[] row = lots[kind];
            int spoilt = 0;
            for (int age = OLDEST; age >= 0 && held[kind] > 0; age--) {
                int measures = row[age];
                row[age] = 0;
                if (age < keeping && age < OLDEST) {
                    row[age + 1] = measures;
                } else {
                    spoilt += measures;
                }
            }
            held[kind] -= spoilt;
            return spoilt;
        }
    }

    /** The towns, the ways between them, how long kinds keep, the month, and the labour called. */
    private static final class Land {
        final Town[] towns = new Town[MOST_TOWNS];
        final int[][] days = new int[MOST_TOWNS][MOST_TOWNS];
        final int[] keeping = new int[KINDS];
        int townCount;
        int month;
        int hands;

        Land() {
            for (int town = 0; town < MOST_TOWNS; town++) {
                towns[town] = new Town();
                Arrays.fill(days[town], NONE);
                days[town][town] = 0;
            }
            keeping[MAIZE] = 12;
            keeping[CLOTH] = 60;
            keeping[MEAT] = 24;
        }

        boolean hasTown(int town) {
            return within(town, 0, townCount - 1);
        }

        int found(int room, int people, int tens) {
            if (townCount >= MOST_TOWNS) {
                return NONE;
            }
            Town founded = towns[townCount];
            founded.room = room;
            founded.people = people;
            founded.tens = tens;
            townCount++;
            return townCount - 1;
        }

        void growLots(Tally tally) {
            for (int town = 0; town < townCount; town++) {
                for (int kind = 0; kind < KINDS; kind++) {
                    tally.spoilt += towns[town].grow(kind, keeping[kind]);
                }
            }
        }

        void eat(Tally tally) {
            for (int town = 0; town < townCount; town++) {
                int people = towns[town].people;
                tally.hunger += people - towns[town].removeOldest(MAIZE, people);
            }
        }

        int allTens() {
            int all = 0;
            for (int town = 0; town < townCount; town++) {
                all += towns[town].tens;
            }
            return all;
        }

        /** Takes one hand more from the town that is most behind, the first of like ones. */
        void takeHand(int allTens) {
            hands++;
            int chosen = NONE;
            int most = 0;
            for (int town = 0; town < townCount; town++) {
                int tens = towns[town].tens;
                int behind = tens * hands - allTens * towns[town].handsGiven;
                if (tens > 0 && (chosen == NONE || behind > most)) {
                    chosen = town;
                    most = behind;
                }
            }
            if (chosen != NONE) {
                towns[chosen].handsGiven++;
            }
        }
    }

    /** The loads on their way, in the order in which they were sent. */
    private static final class Carriers {
        final int[] to = new int[MOST_LOADS];
        final int[] kind = new int[MOST_LOADS];
        final int[] age = new int[MOST_LOADS];
        final int[] measures = new int[MOST_LOADS];
        final int[] arrival = new int[MOST_LOADS];
        int size;

        void send(int toTown, int ofKind, int ofAge, int howMany, int arrivalMonth) {
            if (size >= MOST_LOADS) {
                return;
            }
            to[size] = toTown;
            kind[size] = ofKind;
            age[size] = ofAge;
            measures[size] = howMany;
            arrival[size] = arrivalMonth;
            size++;
        }

        int allMeasures() {
            int all = 0;
            for (int load = 0; load < size; load++) {
                all += measures[load];
            }
            return all;
        }

        void grow() {
            for (int load = 0; load < size; load++) {
                age[load]++;
            }
        }

        /** Stores what arrives this month; what goes on keeps its order. */
        void arrive(Land land, Tally tally) {
            int sent = size;
            size = 0;
            for (int load = 0; load < sent; load++) {
                if (arrival[load] <= land.month) {
                    unload(load, land, tally);
                } else {
                    send(to[load], kind[load], age[load], measures[load], arrival[load]);
                }
            }
        }

        private void unload(int load, Land land, Tally tally) {
            int howMany = measures[load];
            tally.arrived += howMany;
            if (age[load] > land.keeping[kind[load]]) {
                tally.spoilt += howMany;
                return;
            }
            int stored = land.towns[to[load]].store(kind[load], age[load], howMany);
            tally.lost += howMany - stored;
        }
    }

    /**
     * A text's tokens. Behind the last stands THE_END; at the first place without a token stands
     * NO_TOKEN, and the scan stops, as no reader goes past it.
     */
    private static final class Tokens {
        final byte[] what = new byte[MOST_BYTES + 2];
        final int[] value = new int[MOST_BYTES + 2];
        final short[] place = new short[MOST_BYTES + 2];
        int size;

        void scan(byte[] text, int length) {
            size = 0;
            int at = 0;
            for (int step = 0; step < length && at < length; step++) {
                int next = text[at];
                if (isLetter(next)) {
                    at = addName(text, at, length);
                } else if (isDigit(next)) {
                    at = addNumber(text, at, length);
                } else if (isSign(next)) {
                    add(next, 0, at);
                    at++;
                } else if (next == ' ' || next == '\n') {
                    at++;
                } else {
                    add(NO_TOKEN, 0, at);
                    at = length;
                }
            }
            add(THE_END, 0, length);
        }

        private void add(int ofWhat, int ofValue, int atPlace) {
            if (size < what.length) {
                what[size] = (byte) ofWhat;
                value[size] = ofValue;
                place[size] = (short) atPlace;
                size++;
            }
        }

        private int addNumber(byte[] text, int at, int length) {
            int number = 0;
            int stop = at;
            while (stop < length && isDigit(text[stop])) {
                number = number * 10 + text[stop] - '0';
                stop++;
            }
            boolean letterBehind = stop < length && isLetter(text[stop]);
            if (stop - at > MOST_DIGITS || letterBehind) {
                add(NO_TOKEN, 0, at);
                return length;
            }
            add(NUMBER, number, at);
            return stop;
        }

        private int addName(byte[] text, int at, int length) {
            if (isTownName(text, at, length)) {
                add(TOWN_NAME, text[at + 1] - '0', at);
                return at + 2;
            }
            int stop = at;
            while (stop < length && isLetter(text[stop])) {
                stop++;
            }
            if (stop - at > MOST_LETTERS) {
                add(NO_TOKEN, 0, at);
                return length;
            }
            int kind = kindOf(text, at, stop);
            if (kind != NONE) {
                add(KIND_NAME, kind, at);
            } else {
                add(wordOf(text, at, stop), 0, at);
            }
            return stop;
        }

        private static boolean isTownName(byte[] text, int at, int length) {
            if (text[at] != 't' || at + 1 >= length || !within(text[at + 1], '0', LAST_TOWN_DIGIT)) {
                return false;
            }
            return at + 2 >= length || !isLetter(text[at + 2]) && !isDigit(text[at + 2]);
        }

        private static int kindOf(byte[] text, int from, int stop) {
            if (spells("maize", text, from, stop)) return MAIZE;
            if (spells("cloth", text, from, stop)) return CLOTH;
            if (spells("meat", text, from, stop)) return MEAT;
            return NONE;
        }

        private static int wordOf(byte[] text, int from, int stop) {
            if (spells("when", text, from, stop)) return WHEN;
            if (spells("move", text, from, stop)) return MOVE;
            if (spells("from", text, from, stop)) return FROM;
            if (spells("to", text, from, stop)) return TO;
            if (spells("or", text, from, stop)) return OR;
            if (spells("and", text, from, stop)) return AND;
            if (spells("not", text, from, stop)) return NOT;
            if (spells("month", text, from, stop)) return MONTH;
            if (spells("people", text, from, stop)) return PEOPLE;
            if (spells("stock", text, from, stop)) return STOCK;
            if (spells("old", text, from, stop)) return OLD;
            if (spells("room", text, from, stop)) return ROOM;
            return OTHER_WORD;
        }

        private static boolean spells(String word, byte[] text, int from, int stop) {
            if (stop - from != word.length() || stop > text.length) {
                return false;
            }
            for (int i = 0; i < word.length(); i++) {
                if (text[from + i] != word.charAt(i)) {
                    return false;
                }
            }
            return true;
        }

        private static boolean isLetter(int character) {
            return within(character, 'a', 'z');
        }

        private static boolean isDigit(int character) {
            return within(character, '0', '9');
        }

        private static boolean isSign(int character) {
            switch (character) {
                case ';':
                case '(':
                case ')':
                case '<':
                case '>':
                case '=':
                case '+':
                case '-':
                    return true;
                default:
                    return false;
            }
        }
    }

    /** Lines of orders; their conditions are steps in one row, operands before their operation. */
    private static final class Orders {
        // 80 terms, 79 operations that join two, and as many 'not' as 1,000 bytes have room for.
        private static final int MOST_STEPS = 512;
        // Two left sides open in each e, and three numbers in the innermost comparison.
        private static final int MOST_OPEN = 32;
        private static final int WHAT_BITS = 6;
        private static final int WHAT_MASK = 63;

        private final int[] steps = new int[MOST_STEPS];
        private int stepCount;
        private final int[] open = new int[MOST_OPEN];
        int lines;
        private final int[] stepsStop = new int[MOST_LINES];
        final int[] measures = new int[MOST_LINES];
        final int[] kind = new int[MOST_LINES];
        final int[] from = new int[MOST_LINES];
        final int[] to = new int[MOST_LINES];

        void clear() {
            lines = 0;
            stepCount = 0;
        }

        void addStep(int what, int value) {
            if (stepCount < MOST_STEPS) {
                steps[stepCount] = value << WHAT_BITS | what;
                stepCount++;
            }
        }

        /** Closes a line; the steps since the line before it are its condition. */
        void addLine(int howMany, int ofKind, int fromTown, int toTown) {
            if (lines >= MOST_LINES) {
                return;
            }
            stepsStop[lines] = stepCount;
            measures[lines] = howMany;
            kind[lines] = ofKind;
            from[lines] = fromTown;
            to[lines] = toTown;
            lines++;
        }

        boolean holds(int line, Land land) {
            int top = 0;
            int first = line > 0 ? stepsStop[line - 1] : 0;
            for (int step = first; step < stepsStop[line]; step++) {
                int what = steps[step] & WHAT_MASK;
                int value = steps[step] >> WHAT_BITS;
                if (isTerm(what)) {
                    if (top < MOST_OPEN) {
                        open[top] = termValue(what, value, land);
                        top++;
                    }
                } else if (what == NOT) {
                    if (top > 0) {
                        open[top - 1] = 1 - open[top - 1];
                    }
                } else if (top > 1) {
                    top--;
                    open[top - 1] = join(what, open[top - 1], open[top]);
                }
            }
            return top == 0 || open[0] != 0;
        }

        private static boolean isTerm(int what) {
            return what == NUMBER || within(what, MONTH, ROOM);
        }

        private static int termValue(int what, int value, Land land) {
            if (what == NUMBER) {
                return value;
            }
            if (what == MONTH) {
                return land.month;
            }
            int town = value / KINDS;
            int ofKind = value % KINDS;
            if (!land.hasTown(town) || !isKind(ofKind)) {
                return 0;
            }
            Town asked = land.towns[town];
            switch (what) {
                case PEOPLE:
                    return asked.people;
                case STOCK:
                    return asked.held[ofKind];
                case OLD:
                    return asked.measuresOfTheOldest(ofKind);
                default:
                    return asked.roomLeft();
            }
        }

        private static int join(int what, int left, int right) {
            switch (what) {
                case '+':
                    return left + right;
                case '-':
                    return left - right;
                case '<':
                    return left < right ? 1 : 0;
                case '>':
                    return left > right ? 1 : 0;
                case '=':
                    return left == right ? 1 : 0;
                case AND:
                    return left & right;
                default:
                    return left | right;
            }
        }
    }

    /**
     * The orders that rule, and the reading of a text into new ones. A method that reads answers
     * false at the first fault and leaves the reader at the token that can't stand there.
     */
    private static final class OrderBook {
        private final Tokens tokens = new Tokens();
        private int at;
        private int terms;
        private boolean alike;
        Orders ruling = new Orders();
        private Orders draft = new Orders();
        int faultKind;
        int faultPlace = NONE;

        /** Answers how many lines rule now, or NONE for a fault. */
        int read(byte[] text, int length) {
            tokens.scan(text, length);
            draft.clear();
            at = 0;
            terms = 0;
            alike = false;
            boolean good = true;
            for (int line = 0; line < MOST_LINES && good && here() != THE_END; line++) {
                good = readLine();
            }
            if (!good || here() != THE_END) {
                noteFault();
                return NONE;
            }
            faultKind = 0;
            faultPlace = NONE;
            Orders before = ruling;
            ruling = draft;
            draft = before;
            return ruling.lines;
        }

        private void noteFault() {
            if (here() == NO_TOKEN) {
                faultKind = FAULT_NO_TOKEN;
            } else {
                faultKind = alike ? FAULT_ALIKE : FAULT_CANNOT_STAND;
            }
            faultPlace = at < tokens.size ? tokens.place[at] : NONE;
        }

        private int here() {
            return at < tokens.size ? tokens.what[at] : THE_END;
        }

        private int valueHere() {
            return at < tokens.size ? tokens.value[at] : 0;
        }

        private boolean accept(int what) {
            boolean there = at < tokens.size && tokens.what[at] == what;
            if (there) {
                at++;
            }
            return there;
        }

        private boolean readLine() {
            if (accept(WHEN) && !readEither(0)) {
                return false;
            }
            if (!accept(MOVE)) {
                return false;
            }
            int measures = valueHere();
            if (!accept(NUMBER)) {
                return false;
            }
            int kind = valueHere();
            if (!accept(KIND_NAME) || !accept(FROM)) {
                return false;
            }
            int from = valueHere();
            if (!accept(TOWN_NAME) || !accept(TO)) {
                return false;
            }
            int to = valueHere();
            alike = here() == TOWN_NAME && to == from;
            if (alike || !accept(TOWN_NAME) || !accept(';')) {
                return false;
            }
            draft.addLine(measures, kind, from, to);
            return true;
        }

        /** An e. Each 'one' has a term at least, so the bounds are never met. */
        private boolean readEither(int others) {
            for (int boths = 0; boths < MOST_TERMS; boths++) {
                for (int ones = 0; ones < MOST_TERMS; ones++) {
                    if (!readOne(others)) {
                        return false;
                    }
                    if (ones > 0) {
                        draft.addStep(AND, 0);
                    }
                    if (!accept(AND)) {
                        break;
                    }
                }
                if (boths > 0) {
                    draft.addStep(OR, 0);
                }
                if (!accept(OR)) {
                    return true;
                }
            }
            return false;
        }

        /** A one, and with it the e that begins with it, within so many others. */
        private boolean readOne(int others) {
            if (others >= MOST_WITHIN) {
                return false;
            }
            if (accept(NOT)) {
                if (!readOne(others + 1)) {
                    return false;
                }
                draft.addStep(NOT, 0);
                return true;
            }
            if (accept('(')) {
                return readEither(others + 1) && accept(')');
            }
            if (!readSum()) {
                return false;
            }
            int sign = here();
            if (!accept('<') && !accept('>') && !accept('=')) {
                return false;
            }
            if (!readSum()) {
                return false;
            }
            draft.addStep(sign, 0);
            return true;
        }

        private boolean readSum() {
            if (!readTerm()) {
                return false;
            }
            for (int more = 0; more < MOST_TERMS; more++) {
                int sign = here();
                if (!accept('+') && !accept('-')) {
                    return true;
                }
                if (!readTerm()) {
                    return false;
                }
                draft.addStep(sign, 0);
            }
            return false;
        }

        private boolean readTerm() {
            if (terms >= MOST_TERMS) {
                return false;
            }
            terms++;
            int what = here();
            int number = valueHere();
            if (accept(NUMBER) || accept(MONTH)) {
                draft.addStep(what, number);
                return true;
            }
            boolean withKind = what == STOCK || what == OLD;
            if (!accept(PEOPLE) && !accept(ROOM) && !accept(STOCK) && !accept(OLD)) {
                return false;
            }
            int town = valueHere();
            if (!accept(TOWN_NAME)) {
                return false;
            }
            int kind = withKind ? valueHere() : 0;
            if (withKind && !accept(KIND_NAME)) {
                return false;
            }
            draft.addStep(what, subject(town, kind));
            return true;
        }
    }

    /** The feasts, in the order in which they were set. */
    private static final class Feasts {
        final int[] town = new int[MOST_FEASTS];
        final int[] month = new int[MOST_FEASTS];
        final int[] kind = new int[MOST_FEASTS];
        final int[] measures = new int[MOST_FEASTS];
        int size;

        int add(int atTown, int inMonth, int ofKind, int howMany) {
            if (size >= MOST_FEASTS) {
                return NONE;
            }
            town[size] = atTown;
            month[size] = inMonth;
            kind[size] = ofKind;
            measures[size] = howMany;
            size++;
            return size - 1;
        }
    }

    /**
     * The plan that gives most and carries least: a flow from lots to feasts, each time made greater
     * along the way that costs least, which may take back what was given before.
     *
     * Lots of one town that can serve the same feasts are one pile: a younger lot can serve whatever
     * an older one can, so a town has at most as many piles as there are feasts.
     */
    private static final class Planner {
        private static final int MOST_PILES = MOST_TOWNS * MOST_FEASTS;
        private static final int MOST_PUSHES = MOST_FEASTS * MOST_FEAST_MEASURES;
        private static final int FAR = 1000000;

        private int feastCount;
        private final int[] feastTown = new int[MOST_FEASTS];
        private final int[] feastMonth = new int[MOST_FEASTS];
        private final int[] oldestServing = new int[MOST_FEASTS];
        private final int[] wanting = new int[MOST_FEASTS];
        private final int[] feastCost = new int[MOST_FEASTS];
        private final int[] feastFrom = new int[MOST_FEASTS];

        private int pileCount;
        private final int[] pileTown = new int[MOST_PILES];
        private final int[] pileAge = new int[MOST_PILES];
        private final int[] left = new int[MOST_PILES];
        private final int[] pileCost = new int[MOST_PILES];
        private final int[] pileFrom = new int[MOST_PILES];

        private final int[] days = new int[MOST_PILES * MOST_FEASTS];
        private final int[] given = new int[MOST_PILES * MOST_FEASTS];

        int measuresGiven;
        int measureDays;

        void plan(Land land, Feasts feasts) {
            measuresGiven = 0;
            measureDays = 0;
            for (int kind = 0; kind < KINDS; kind++) {
                gatherFeasts(land, feasts, kind);
                gatherPiles(land, kind);
                findDays(land);
                boolean more = true;
                for (int push = 0; push < MOST_PUSHES && more; push++) {
                    int last = cheapestFeast();
                    more = last != NONE;
                    if (more) {
                        giveAlong(last);
                    }
                }
            }
        }

        /** A feast that is over can't be served, and so isn't gathered. */
        private void gatherFeasts(Land land, Feasts feasts, int kind) {
            feastCount = 0;
            for (int feast = 0; feast < feasts.size; feast++) {
                int wait = feasts.month[feast] - land.month;
                if (feasts.kind[feast] == kind && wait >= 0 && wait <= land.keeping[kind]) {
                    feastTown[feastCount] = feasts.town[feast];
                    feastMonth[feastCount] = feasts.month[feast];
                    oldestServing[feastCount] = land.keeping[kind] - wait;
                    wanting[feastCount] = feasts.measures[feast];
                    feastCount++;
                }
            }
        }

        private void gatherPiles(Land land, int kind) {
            pileCount = 0;
            for (int town = 0; town < land.townCount && feastCount > 0; town++) {
                int servedBefore = 0;
                for (int age = OLDEST; age >= 0; age--) {
                    int measures = land.towns[town].lots[kind][age];
                    int served = measures > 0 ? feastsServedAt(age) : 0;
                    if (served > 0 && served == servedBefore) {
                        left[pileCount - 1] += measures;
                    } else if (served > 0 && pileCount < MOST_PILES) {
                        pileTown[pileCount] = town;
                        pileAge[pileCount] = age;
                        left[pileCount] = measures;
                        pileCount++;
                        servedBefore = served;
                    }
                }
            }
        }

        private int feastsServedAt(int age) {
            int served = 0;
            for (int feast = 0; feast < feastCount; feast++) {
                if (age <= oldestServing[feast]) {
                    served++;
                }
            }
            return served;
        }

        private void findDays(Land land) {
            for (int pile = 0; pile < pileCount; pile++) {
                for (int feast = 0; feast < feastCount; feast++) {
                    int way = land.days[pileTown[pile]][feastTown[feast]];
                    boolean inTime = land.month + monthsOnTheWay(way) <= feastMonth[feast];
                    boolean good = pileAge[pile] <= oldestServing[feast];
                    days[pair(pile, feast)] = way != NONE && inTime && good ? way : NONE;
                    given[pair(pile, feast)] = 0;
                }
            }
        }

        private static int pair(int pile, int feast) {
            return pile * MOST_FEASTS + feast;
        }

        /** Answers the feast still wanting that can be given to at least cost, or NONE. */
        private int cheapestFeast() {
            Arrays.fill(feastCost, FAR);
            for (int pile = 0; pile < pileCount; pile++) {
                pileCost[pile] = left[pile] > 0 ? 0 : FAR;
                pileFrom[pile] = NONE;
            }
            // A cheapest way passes each feast once at most.
            boolean better = true;
            for (int round = 0; round <= feastCount && better; round++) {
                better = goForth() && goBack();
            }
            int best = NONE;
            for (int feast = 0; feast < feastCount; feast++) {
                boolean open = wanting[feast] > 0 && feastCost[feast] < FAR;
                if (open && (best == NONE || feastCost[feast] < feastCost[best])) {
                    best = feast;
                }
            }
            return best;
        }

        /** From piles to the feasts that they can serve. */
        private boolean goForth() {
            boolean better = false;
            for (int pile = 0; pile < pileCount; pile++) {
                for (int feast = 0; feast < feastCount && pileCost[pile] < FAR; feast++) {
                    int way = days[pair(pile, feast)];
                    int cost = pileCost[pile] + way;
                    if (way != NONE && cost < feastCost[feast]) {
                        feastCost[feast] = cost;
                        feastFrom[feast] = pile;
                        better = true;
                    }
                }
            }
            return better;
        }

        /** From feasts back to the piles that gave to them. */
        private boolean goBack() {
            boolean better = false;
            for (int feast = 0; feast < feastCount; feast++) {
                for (int pile = 0; pile < pileCount && feastCost[feast] < FAR; pile++) {
                    int cost = feastCost[feast] - days[pair(pile, feast)];
                    if (given[pair(pile, feast)] > 0 && cost < pileCost[pile]) {
                        pileCost[pile] = cost;
                        pileFrom[pile] = feast;
                        better = true;
                    }
                }
            }
            return better;
        }

        private void giveAlong(int last) {
            int measures = measuresAlong(last);
            int feast = last;
            for (int step = 0; step <= feastCount && feast != NONE; step++) {
                int pile = feastFrom[feast];
                given[pair(pile, feast)] += measures;
                feast = pileFrom[pile];
                if (feast != NONE) {
                    given[pair(pile, feast)] -= measures;
                } else {
                    left[pile] -= measures;
                }
            }
            wanting[last] -= measures;
            measuresGiven += measures;
            measureDays += measures * feastCost[last];
        }

        private int measuresAlong(int last) {
            int measures = wanting[last];
            int feast = last;
            for (int step = 0; step <= feastCount && feast != NONE; step++) {
                int pile = feastFrom[feast];
                feast = pileFrom[pile];
                measures = Math.min(measures, feast != NONE ? given[pair(pile, feast)] : left[pile]);
            }
            return measures;
        }
    }

    /** The counts that keepers told, in the order in which they were told. */
    private static final class Ledger {
        private final int[] keeper = new int[MOST_COUNTS];
        private final int[] subject = new int[MOST_COUNTS];
        private final int[] month = new int[MOST_COUNTS];
        private final int[] amount = new int[MOST_COUNTS];
        private final int[] toldIn = new int[MOST_COUNTS];
        private final int[] untoldIn = new int[MOST_COUNTS];
        int size;
        private final int[] voice = new int[KEEPERS];
        int bestCount = NONE;
        int bestVoices;

        int add(int byKeeper, int ofSubject, int ofMonth, int howMany, int now) {
            if (size >= MOST_COUNTS) {
                return NONE;
            }
            keeper[size] = byKeeper;
            subject[size] = ofSubject;
            month[size] = ofMonth;
            amount[size] = howMany;
            toldIn[size] = now;
            untoldIn[size] = NONE;
            size++;
            return size - 1;
        }

        boolean withdraw(int number, int now) {
            if (!within(number, 0, size - 1) || untoldIn[number] != NONE) {
                return false;
            }
            untoldIn[number] = now;
            return true;
        }

        /** Finds the count for which most keepers speak as known in a month, the least of like ones. */
        void hear(int ofSubject, int ofMonth, int knownIn) {
            gatherVoices(ofSubject, ofMonth, knownIn);
            bestCount = NONE;
            bestVoices = 0;
            for (int i = 0; i < KEEPERS; i++) {
                int voices = voice[i] == NONE ? 0 : voicesFor(voice[i]);
                if (voices > bestVoices || voices > 0 && voices == bestVoices && voice[i] < bestCount) {
                    bestCount = voice[i];
                    bestVoices = voices;
                }
            }
        }

        private void gatherVoices(int ofSubject, int ofMonth, int knownIn) {
            Arrays.fill(voice, NONE);
            for (int i = 0; i < size; i++) {
                boolean asked = subject[i] == ofSubject && month[i] == ofMonth;
                boolean untold = untoldIn[i] != NONE && untoldIn[i] <= knownIn;
                if (asked && toldIn[i] <= knownIn && !untold) {
                    voice[keeper[i]] = amount[i];
                }
            }
        }

        private int voicesFor(int howMany) {
            int voices = 0;
            for (int i = 0; i < KEEPERS; i++) {
                if (voice[i] == howMany) {
                    voices++;
                }
            }
            return voices;
        }
    }
}
