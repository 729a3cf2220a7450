import java.util.ArrayList;
import java.util.List;
import java.util.Random;

/** Promises 12 and 13: months and sum, with the steps of a month. */
public final class MonthsTest {
    private static final Check CHECK = new Check("MonthsTest");

    public static void main(String[] args) {
        edges();
        eating();
        spoiling();
        arriving();
        spoiltOnTheWay();
        fullStore();
        sixtyLoads();
        townsThatAreNot();
        changesOnTheWay();
        for (int seed = 0; seed < 2000; seed++) {
            againstTheModel(seed);
        }
        CHECK.close();
    }

    private static void edges() {
        StoreRealm realm = new StoreRealm();
        CHECK.due("none", realm.months(0), 0);
        CHECK.due("less", realm.months(-1), StoreRealm.NONE);
        CHECK.due("too many", realm.months(61), StoreRealm.NONE);
        CHECK.due("far too many", realm.months(Integer.MAX_VALUE), StoreRealm.NONE);
        for (int call = 1; call <= 33; call++) {
            CHECK.due("sixty", realm.months(60), call * 60);
        }
        CHECK.due("above all", realm.months(21), StoreRealm.NONE);
        CHECK.due("nothing was done", realm.about(0), 1980);
        CHECK.due("the last", realm.months(20), 2000);
        CHECK.due("none more", realm.months(1), StoreRealm.NONE);
        CHECK.due("none at the end", realm.months(0), 2000);
        CHECK.due("another what", realm.sum(6), StoreRealm.NONE);
        CHECK.due("another what", realm.sum(-1), StoreRealm.NONE);
    }

    private static void eating() {
        StoreRealm realm = new StoreRealm();
        realm.town(100, 10, 0);
        realm.town(100, 7, 0);
        realm.put(0, 0, 1, 8);
        realm.put(0, 0, 4, 8);
        realm.put(0, 1, 4, 8);
        realm.months(1);
        CHECK.due("hunger", realm.sum(0), 7);
        CHECK.due("the oldest are eaten", realm.stock(0, 0, 5), 0);
        CHECK.due("then the next", realm.stock(0, 0, 2), 6);
        CHECK.due("no cloth is eaten", realm.stock(0, 1, 5), 8);
        realm.months(2);
        CHECK.due("hunger grows", realm.sum(0), 7 + 4 + 7 + 10 + 7);
    }

    private static void spoiling() {
        StoreRealm realm = new StoreRealm();
        realm.town(1000, 5, 0);
        realm.put(0, 0, 11, 20);
        realm.put(0, 0, 12, 30);
        realm.put(0, 1, 60, 1);
        realm.put(0, 1, 59, 2);
        realm.put(0, 2, 40, 4);
        realm.months(1);
        CHECK.due("spoilt before it is eaten", realm.sum(1), 30 + 1 + 4);
        CHECK.due("what keeps", realm.stock(0, 0, 12), 15);
        CHECK.due("cloth", realm.stock(0, 1, 60), 2);
        CHECK.due("room", realm.of(0, 3), 1000 - 17);
        realm.keeps(0, 60);
        realm.months(1);
        CHECK.due("it keeps longer now", realm.stock(0, 0, 13), 10);
        CHECK.due("but cloth does not", realm.sum(1), 37);
        realm.keeps(0, 3);
        CHECK.due("not at once", realm.stock(0, 0, 13), 10);
        realm.months(1);
        CHECK.due("in the month", realm.sum(1), 47);
        CHECK.due("hunger", realm.sum(0), 5);
    }

    private static void arriving() {
        int[][] months = {{1, 1}, {30, 1}, {31, 2}, {60, 2}, {61, 3}, {180, 6}, {181, 7}, {200, 7}};
        for (int[] row : months) {
            StoreRealm realm = new StoreRealm();
            realm.town(100, 0, 0);
            realm.town(100, 0, 0);
            realm.way(0, 1, row[0]);
            realm.put(0, 1, 0, 9);
            Check.order(realm, "when month = 0 move 5 cloth from t0 to t1;");
            realm.months(row[1]);
            CHECK.due(row[0] + " days: still on the way", realm.sum(3), 5);
            CHECK.due(row[0] + " days: one load", realm.sum(4), 1);
            CHECK.due(row[0] + " days: none arrived", realm.sum(5), 0);
            realm.months(1);
            CHECK.due(row[0] + " days: there", realm.stock(1, 1, row[1] + 1), 5);
            CHECK.due(row[0] + " days: arrived", realm.sum(5), 5);
            CHECK.due(row[0] + " days: none on the way", realm.sum(3) + realm.sum(4), 0);
        }
    }

    private static void spoiltOnTheWay() {
        StoreRealm realm = new StoreRealm();
        realm.town(100, 0, 0);
        realm.town(100, 0, 0);
        realm.way(0, 1, 90);
        realm.keeps(2, 5);
        realm.put(0, 2, 2, 10);
        realm.put(0, 2, 3, 20);
        Check.order(realm, "when month = 0 move 99 meat from t0 to t1;");
        realm.months(3);
        CHECK.due("on the way", realm.sum(3), 30);
        CHECK.due("nothing is spoilt on the way", realm.sum(1), 0);
        realm.months(1);
        CHECK.due("all arrived", realm.sum(5), 30);
        CHECK.due("all is spoilt", realm.sum(1), 30);
        CHECK.due("nothing is lost", realm.sum(2), 0);
        CHECK.due("nothing is there", realm.stock(1, 2, -1), 0);

        StoreRealm full = new StoreRealm();
        full.town(100, 0, 0);
        full.town(5, 0, 0);
        full.way(0, 1, 60);
        full.keeps(2, 5);
        full.put(0, 2, 4, 10);
        full.put(0, 2, 3, 10);
        Check.order(full, "when month = 0 move 99 meat from t0 to t1;");
        full.months(3);
        // Of age 6 as they arrive are spoilt without the store; of age 5 they come in, and spoil there.
        CHECK.due("spoilt", full.sum(1), 15);
        CHECK.due("lost", full.sum(2), 5);
    }

    private static void fullStore() {
        StoreRealm realm = new StoreRealm();
        realm.town(100, 0, 0);
        realm.town(10, 2, 0);
        realm.way(0, 1, 5);
        realm.put(0, 1, 3, 8);
        realm.put(0, 0, 3, 8);
        realm.put(1, 0, 0, 5);
        Check.order(realm, "move 4 cloth from t0 to t1; when month < 1 move 6 maize from t0 to t1;");
        realm.months(1);
        CHECK.due("people eat before orders", realm.stock(1, 0, -1), 3);
        realm.months(1);
        CHECK.due("the first sent is stored", realm.stock(1, 1, -1), 4);
        CHECK.due("of the second what there is room for, then people eat", realm.stock(1, 0, -1), 3 + 3 - 2);
        CHECK.due("lost", realm.sum(2), 3);
        CHECK.due("arrived", realm.sum(5), 10);
    }

    private static void sixtyLoads() {
        StoreRealm realm = new StoreRealm();
        realm.town(1000, 0, 0);
        realm.town(1000, 0, 0);
        realm.way(0, 1, 200);
        realm.keeps(0, 60);
        for (int age = 0; age < 60; age++) {
            realm.put(0, 0, age, 2);
            realm.put(0, 1, age, 2);
        }
        Check.order(realm, "move 3 cloth from t0 to t1; move 0 cloth from t0 to t1; move 999999 maize from t0 to t1;");
        realm.months(1);
        CHECK.due("sixty loads", realm.sum(4), 60);
        CHECK.due("the oldest went", realm.stock(0, 1, 60), 0);
        CHECK.due("of the next a part", realm.stock(0, 1, 59), 1);
        CHECK.due("58 loads of maize", realm.stock(0, 0, -1), 4);
        CHECK.due("the youngest stay", realm.stock(0, 0, 1) + realm.stock(0, 0, 2), 4);
        CHECK.due("measures on the way", realm.sum(3), 3 + 116);
        realm.months(6);
        CHECK.due("no more go", realm.sum(4), 60);
        realm.months(1);
        CHECK.due("all arrived", realm.sum(5), 119);
        CHECK.due("now others go", realm.sum(4), 4);
    }

    private static void townsThatAreNot() {
        StoreRealm realm = new StoreRealm();
        realm.town(100, 0, 0);
        realm.put(0, 1, 0, 50);
        Check.order(realm, "move 5 cloth from t0 to t1; move 5 cloth from t1 to t0;");
        realm.months(1);
        CHECK.due("nothing goes to no town", realm.sum(4), 0);
        realm.town(100, 0, 0);
        realm.months(1);
        CHECK.due("nothing goes without a way", realm.sum(4), 0);
        realm.way(1, 0, 5);
        realm.months(1);
        CHECK.due("now it goes", realm.sum(3), 5);
    }

    private static void changesOnTheWay() {
        StoreRealm realm = new StoreRealm();
        realm.town(100, 0, 0);
        realm.town(100, 0, 0);
        realm.way(0, 1, 40);
        realm.put(0, 1, 0, 50);
        Check.order(realm, "when month = 0 move 5 cloth from t0 to t1;");
        realm.months(1);
        realm.way(0, 1, StoreRealm.NONE);
        realm.months(2);
        CHECK.due("what was sent arrives", realm.stock(1, 1, 3), 5);
    }

    /** A realm told as the document tells it: every lot and load is a row of its own. */
    private static final class Model {
        final int[] room;
        final int[] people;
        final int[][] days;
        final int[] keeps = {12, 60, 24};
        final List<int[]> lots = new ArrayList<>(); // town, kind, age, measures
        final List<int[]> loads = new ArrayList<>(); // town, kind, age, measures, month
        final List<int[]> lines = new ArrayList<>(); // measures, kind, from, to, the stock above which it goes
        final long[] sums = new long[6];
        int month;

        Model(int towns) {
            room = new int[towns];
            people = new int[towns];
            days = new int[towns][towns];
        }

        int held(int town, int kind) {
            return lots.stream().filter(l -> l[0] == town && (kind < 0 || l[1] == kind)).mapToInt(l -> l[3]).sum();
        }

        int put(int town, int kind, int age, int measures) {
            int stored = Math.min(measures, room[town] - held(town, -1));
            sums[2] += measures - stored;
            if (stored > 0) {
                lots.add(new int[] {town, kind, age, stored});
            }
            return stored;
        }

        int[] oldest(int town, int kind) {
            int[] found = null;
            for (int[] lot : lots) {
                if (lot[0] == town && lot[1] == kind && (found == null || lot[2] > found[2])) {
                    found = lot;
                }
            }
            if (found != null) {
                int[] whole = found.clone();
                whole[3] = lots.stream().filter(l -> l[0] == town && l[1] == kind && l[2] == whole[2]).mapToInt(l -> l[3]).sum();
                lots.removeIf(l -> l[0] == town && l[1] == kind && l[2] == whole[2]);
                lots.add(whole);
                return whole;
            }
            return null;
        }

        int[] remove(int town, int kind, int most) {
            int[] lot = oldest(town, kind);
            if (lot == null || most <= 0) {
                return null;
            }
            int part = Math.min(most, lot[3]);
            lot[3] -= part;
            if (lot[3] == 0) {
                lots.remove(lot);
            }
            return new int[] {lot[2], part};
        }

        int take(int town, int kind, int measures) {
            int left = measures;
            for (int[] part = remove(town, kind, left); part != null; part = remove(town, kind, left)) {
                left -= part[1];
            }
            return measures - left;
        }

        void month() {
            for (int[] load : new ArrayList<>(loads)) {
                if (load[4] == month) {
                    loads.remove(load);
                    sums[5] += load[3];
                    if (load[2] > keeps[load[1]]) {
                        sums[1] += load[3];
                    } else {
                        put(load[0], load[1], load[2], load[3]);
                    }
                }
            }
            loads.forEach(l -> l[2]++);
            lots.forEach(l -> l[2]++);
            for (int[] lot : new ArrayList<>(lots)) {
                if (lot[2] > keeps[lot[1]]) {
                    sums[1] += lot[3];
                    lots.remove(lot);
                }
            }
            for (int town = 0; town < room.length; town++) {
                sums[0] += people[town] - take(town, 0, people[town]);
            }
            for (int[] line : lines) {
                int way = days[line[2]][line[3]];
                int left = held(line[2], line[1]) > line[4] && way > 0 ? line[0] : 0;
                while (left > 0 && loads.size() < 60) {
                    int[] part = remove(line[2], line[1], left);
                    if (part == null) {
                        break;
                    }
                    left -= part[1];
                    loads.add(new int[] {line[3], line[1], part[0], part[1], month + (int) Math.ceil(way / 30.0)});
                }
            }
            month++;
        }
    }

    private static void againstTheModel(int seed) {
        Random random = new Random(seed);
        int towns = 2 + random.nextInt(5);
        Model model = new Model(towns);
        StoreRealm realm = new StoreRealm();
        for (int town = 0; town < towns; town++) {
            model.room[town] = random.nextInt(400);
            model.people[town] = random.nextInt(3) == 0 ? 0 : random.nextInt(12);
            realm.town(model.room[town], model.people[town], 0);
        }
        for (int step = 0; step < 25; step++) {
            int town = random.nextInt(towns);
            int kind = random.nextInt(3);
            switch (random.nextInt(8)) {
                case 0, 1, 2 -> {
                    int age = random.nextInt(random.nextBoolean() ? 61 : 10);
                    int measures = 1 + random.nextInt(80);
                    CHECK.due("put", realm.put(town, kind, age, measures), model.put(town, kind, age, measures));
                }
                case 3 -> {
                    int measures = 1 + random.nextInt(30);
                    CHECK.due("take", realm.take(town, kind, measures), model.take(town, kind, measures));
                }
                case 4 -> {
                    int other = (town + 1) % towns;
                    int days = 1 + random.nextInt(200);
                    realm.way(town, other, days);
                    model.days[town][other] = days;
                    model.days[other][town] = days;
                }
                case 5 -> {
                    model.keeps[kind] = 1 + random.nextInt(60);
                    realm.keeps(kind, model.keeps[kind]);
                }
                case 6 -> giveLines(realm, model, random, towns);
                default -> {
                    int months = random.nextInt(5);
                    realm.months(months);
                    for (int month = 0; month < months; month++) {
                        model.month();
                    }
                }
            }
            compareSums(realm, model, seed);
        }
        compareStores(realm, model, seed);
    }

    private static void giveLines(StoreRealm realm, Model model, Random random, int towns) {
        String[] names = {"maize", "cloth", "meat"};
        model.lines.clear();
        StringBuilder text = new StringBuilder();
        int lines = random.nextInt(6);
        for (int line = 0; line < lines; line++) {
            int from = random.nextInt(towns);
            int to = (from + 1 + random.nextInt(towns - 1)) % towns;
            int kind = random.nextInt(3);
            int measures = random.nextInt(60);
            int above = random.nextInt(40);
            model.lines.add(new int[] {measures, kind, from, to, above});
            text.append("when stock t").append(from).append(" ").append(names[kind]).append(">").append(above);
            text.append(" move ").append(measures).append(" ").append(names[kind]);
            text.append(" from t").append(from).append(" to t").append(to).append(";\n");
        }
        CHECK.due("orders", Check.order(realm, text.toString()), lines);
    }

    private static void compareSums(StoreRealm realm, Model model, int seed) {
        model.sums[3] = model.loads.stream().mapToInt(l -> l[3]).sum();
        model.sums[4] = model.loads.size();
        for (int what = 0; what < 6; what++) {
            CHECK.due("seed " + seed + ": sum " + what, realm.sum(what), model.sums[what]);
        }
    }

    /** Only lots that are there are asked for one by one: an object is good for 512 calls. */
    private static void compareStores(StoreRealm realm, Model model, int seed) {
        CHECK.due("month", realm.about(0), model.month);
        int[][][] lots = new int[model.room.length][3][61];
        for (int[] lot : model.lots) {
            lots[lot[0]][lot[1]][lot[2]] += lot[3];
        }
        for (int town = 0; town < model.room.length; town++) {
            CHECK.due("room left", realm.of(town, 3), model.room[town] - model.held(town, -1));
            for (int kind = 0; kind < 3; kind++) {
                CHECK.due("stock", realm.stock(town, kind, -1), model.held(town, kind));
                for (int age = 0; age <= 60; age++) {
                    if (lots[town][kind][age] > 0) {
                        CHECK.due("seed " + seed + ": lot", realm.stock(town, kind, age), lots[town][kind][age]);
                    }
                }
            }
        }
    }
}
