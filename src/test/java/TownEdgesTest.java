import java.util.function.IntUnaryOperator;

/** Promises 1 to 7, 24 and 25: the limits of towns, ways, kinds and stores, each from both its sides. */
public final class TownEdgesTest {
    private static final Check CHECK = new Check("TownEdgesTest");
    private static final Twins BUSY = new Twins(CHECK, Twins::busyRealm);
    private static final int NONE = StoreRealm.NONE;
    private static final int LEAST = Integer.MIN_VALUE;
    private static final int GREATEST = Integer.MAX_VALUE;

    public static void main(String[] args) {
        noTowns();
        eightTowns();
        roomOfATown();
        peopleOfATown();
        tensOfATown();
        daysOfAWay();
        townsOfAWay();
        waysOfEightTowns();
        kindsThatKeep();
        monthsThatAKindKeeps();
        townsAndKindsOfAStore();
        agesThatArePut();
        measuresThatArePut();
        aStoreThatIsFull();
        aStoreWithoutRoom();
        measuresThatAreTaken();
        takenToTheLast();
        agesOfAStock();
        whatOfATown();
        whatAboutTheRealm();
        CHECK.close();
    }

    private static void noTowns() {
        Twins fresh = new Twins(CHECK, realm -> { });
        CHECK.due("new: TOWNS", fresh.realm().about(1), 0);
        CHECK.due("new: MONTH", fresh.realm().about(0), 0);
        fresh.none("new: put", r -> r.put(0, 0, 0, 1));
        fresh.none("new: take", r -> r.take(0, 0, 1));
        fresh.none("new: stock", r -> r.stock(0, 0, NONE));
        fresh.none("new: feast", r -> r.feast(0, 0, 0, 1));
        fresh.none("new: call", r -> r.call(1));
        fresh.none("new: gave", r -> r.gave(0));
        fresh.none("new: tell", r -> r.tell(0, 0, 0, 0, 0));
        fresh.none("new: count", r -> r.count(0, 0, 0, 0));
        fresh.none("new: of", r -> r.of(0, 0));
        fresh.none("new: of to itself", r -> r.of(0, 10));
        fresh.idle("new: agree", r -> r.agree(0, 0, 0, 0), 0);
        fresh.idle("new: way", r -> r.way(0, 1, 1) ? 1 : 0, 0);
        fresh.idle("new: untell", r -> r.untell(0) ? 1 : 0, 0);
        fresh.idle("new: cancel", r -> r.cancel() ? 1 : 0, 0);
        fresh.idle("new: orders", StoreRealm::orders, 0);
        fresh.idle("new: end", r -> r.end(0), 0);
        fresh.idle("new: months", r -> r.months(0), 0);
    }

    private static void eightTowns() {
        Twins full = new Twins(CHECK, realm -> {
            for (int town = 0; town < 8; town++) {
                CHECK.due("town " + town, realm.town(100 + town, town, 20 + town), town);
                CHECK.due("TOWNS", realm.about(1), town + 1);
            }
            for (int town = 0; town < 8; town++) {
                CHECK.due("ROOM of " + town, realm.of(town, 0), 100 + town);
                CHECK.due("PEOPLE of " + town, realm.of(town, 1), town);
                CHECK.due("TENS of " + town, realm.of(town, 2), 20 + town);
            }
            realm.call(100);
        });
        full.none("a ninth town", r -> r.town(7, 7, 7));
        full.none("a ninth town without anything", r -> r.town(0, 0, 0));
        full.none("of a ninth town", r -> r.of(8, 0));
        full.none("a ninth town gave", r -> r.gave(8));
    }

    /** A town that has one for all but one of its three numbers. */
    private static int townWith(StoreRealm realm, int which, int value) {
        return realm.town(which == 0 ? value : 1, which == 1 ? value : 1, which == 2 ? value : 1);
    }

    private static void limits(String what, int most, int which) {
        for (int value : new int[] {0, 1, most - 1, most}) {
            StoreRealm realm = new StoreRealm();
            CHECK.due(what + " " + value, townWith(realm, which, value), 0);
            CHECK.due(what + " is " + value, realm.of(0, which), value);
        }
        for (int value : new int[] {-1, most + 1, LEAST, GREATEST}) {
            BUSY.none(what + " " + value, r -> townWith(r, which, value));
        }
    }

    private static void roomOfATown() {
        limits("ROOM", 100000, 0);
    }

    private static void peopleOfATown() {
        limits("PEOPLE", 1000, 1);
    }

    private static void tensOfATown() {
        limits("TENS", 500, 2);
    }

    private static void daysOfAWay() {
        for (int days : new int[] {1, 2, 199, 200, NONE}) {
            StoreRealm realm = BUSY.realm();
            CHECK.due("DAYS " + days, realm.way(1, 0, days), true);
            CHECK.due("DAYS there", realm.of(0, 11), days);
            CHECK.due("DAYS back", realm.of(1, 10), days);
            CHECK.due("to itself", realm.of(0, 10) + realm.of(1, 11), 0);
        }
        for (int days : new int[] {0, -2, 201, LEAST, GREATEST}) {
            BUSY.idle("DAYS " + days, r -> r.way(0, 1, days) ? 1 : 0, 0);
        }
        StoreRealm again = BUSY.realm();
        again.way(0, 1, NONE);
        CHECK.due("no WAY is taken away again", again.way(0, 1, NONE), true);
        CHECK.due("a WAY anew", again.way(0, 1, 7), true);
        CHECK.due("its DAYS", again.of(1, 10), 7);
    }

    private static void townsOfAWay() {
        int[][] pairs = {{0, 0}, {1, 1}, {0, 2}, {2, 0}, {-1, 0}, {0, -1}, {2, 2}, {-1, -1}, {7, 0}, {0, 8}, {LEAST, 1}, {1, GREATEST}};
        for (int[] pair : pairs) {
            BUSY.idle("a WAY between " + pair[0] + " and " + pair[1], r -> r.way(pair[0], pair[1], 5) ? 1 : 0, 0);
            BUSY.idle("no WAY between " + pair[0] + " and " + pair[1], r -> r.way(pair[0], pair[1], NONE) ? 1 : 0, 0);
        }
    }

    private static void waysOfEightTowns() {
        StoreRealm realm = new StoreRealm();
        for (int town = 0; town < 8; town++) {
            realm.town(1, 1, 1);
        }
        for (int a = 0; a < 8; a++) {
            for (int b = 0; b < a; b++) {
                CHECK.due("a WAY", realm.way(a, b, 1 + a * 8 + b), true);
            }
        }
        for (int a = 0; a < 8; a++) {
            for (int b = 0; b < 8; b++) {
                int due = a == b ? 0 : 1 + Math.max(a, b) * 8 + Math.min(a, b);
                CHECK.due("DAYS from " + a + " to " + b, realm.of(a, 10 + b), due);
            }
            CHECK.due("DAYS to a ninth", realm.of(a, 18), NONE);
        }
    }

    private static void kindsThatKeep() {
        int[] first = {12, 60, 24};
        for (int kind = 0; kind < 3; kind++) {
            StoreRealm realm = new StoreRealm();
            CHECK.due("KIND " + kind + " KEEPS at first", realm.about(10 + kind), first[kind]);
            CHECK.due("KIND " + kind, realm.keeps(kind, 5), true);
            for (int other = 0; other < 3; other++) {
                CHECK.due("KIND " + other + " KEEPS then", realm.about(10 + other), other == kind ? 5 : first[other]);
            }
        }
        for (int kind : new int[] {-1, 3, LEAST, GREATEST}) {
            BUSY.idle("KIND " + kind + " KEEPS", r -> r.keeps(kind, 5) ? 1 : 0, 0);
        }
    }

    private static void monthsThatAKindKeeps() {
        for (int kind = 0; kind < 3; kind++) {
            int ofKind = kind;
            for (int months : new int[] {1, 2, 59, 60}) {
                StoreRealm realm = new StoreRealm();
                CHECK.due("KEEPS " + months, realm.keeps(kind, months), true);
                CHECK.due("it KEEPS", realm.about(10 + kind), months);
            }
            for (int months : new int[] {0, -1, 61, LEAST, GREATEST}) {
                BUSY.idle("KEEPS " + months, r -> r.keeps(ofKind, months) ? 1 : 0, 0);
            }
        }
    }

    private static void townsAndKindsOfAStore() {
        for (int town : new int[] {-1, 2, 7, 8, LEAST, GREATEST}) {
            BUSY.none("put into town " + town, r -> r.put(town, 0, 0, 1));
            BUSY.none("take from town " + town, r -> r.take(town, 0, 1));
            BUSY.none("stock of town " + town, r -> r.stock(town, 0, NONE));
            BUSY.none("stock of an AGE of town " + town, r -> r.stock(town, 0, 0));
        }
        for (int kind : new int[] {-1, 3, LEAST, GREATEST}) {
            BUSY.none("put KIND " + kind, r -> r.put(0, kind, 0, 1));
            BUSY.none("take KIND " + kind, r -> r.take(0, kind, 1));
            BUSY.none("stock of KIND " + kind, r -> r.stock(0, kind, NONE));
            BUSY.none("stock of an AGE of KIND " + kind, r -> r.stock(0, kind, 0));
        }
    }

    private static StoreRealm storeOf(int room) {
        StoreRealm realm = new StoreRealm();
        realm.town(room, 0, 0);
        return realm;
    }

    private static void agesThatArePut() {
        for (int kind = 0; kind < 3; kind++) {
            for (int age : new int[] {0, 1, 59, 60}) {
                StoreRealm realm = storeOf(100);
                CHECK.due("put of AGE " + age, realm.put(0, kind, age, 3), 3);
                CHECK.due("put of AGE " + age + " again", realm.put(0, kind, age, 4), 4);
                CHECK.due("lots of one AGE are one", realm.stock(0, kind, age), 7);
                CHECK.due("all of it", realm.stock(0, kind, NONE), 7);
            }
        }
        for (int age : new int[] {-1, -2, 61, LEAST, GREATEST}) {
            BUSY.none("put of AGE " + age, r -> r.put(0, 0, age, 1));
        }
    }

    private static void measuresThatArePut() {
        for (int measures : new int[] {1, 2, 99999, 100000}) {
            StoreRealm realm = storeOf(100000);
            CHECK.due("put " + measures, realm.put(0, 1, 7, measures), measures);
            CHECK.due("there are", realm.stock(0, 1, 7), measures);
            CHECK.due("room is left", realm.of(0, 3), 100000 - measures);
            CHECK.due("none is lost", realm.sum(2), 0);
        }
        for (int measures : new int[] {0, -1, 100001, LEAST, GREATEST}) {
            BUSY.none("put " + measures, r -> r.put(0, 0, 0, measures));
        }
    }

    private static void aStoreThatIsFull() {
        StoreRealm realm = storeOf(10);
        CHECK.due("all but one", realm.put(0, 0, 0, 9), 9);
        CHECK.due("the last", realm.put(0, 1, 0, 1), 1);
        CHECK.due("none is lost", realm.sum(2), 0);
        CHECK.due("one more", realm.put(0, 2, 0, 1), 0);
        CHECK.due("it is lost", realm.sum(2), 1);
        CHECK.due("it is not there", realm.stock(0, 2, NONE), 0);
        CHECK.due("room for two", realm.take(0, 0, 2), 2);
        CHECK.due("what is over", realm.put(0, 2, 4, 3), 2);
        CHECK.due("one more is lost", realm.sum(2), 2);
        CHECK.due("two are there", realm.stock(0, 2, 4), 2);
        CHECK.due("a full store", realm.of(0, 3), 0);
        StoreRealm whole = storeOf(10);
        CHECK.due("as much as there is room for", whole.put(0, 0, 0, 10), 10);
        CHECK.due("none is lost", whole.sum(2), 0);
        StoreRealm over = storeOf(10);
        CHECK.due("one more than there is room for", over.put(0, 0, 0, 11), 10);
        CHECK.due("one is lost", over.sum(2), 1);
    }

    private static void aStoreWithoutRoom() {
        StoreRealm realm = storeOf(0);
        CHECK.due("no room", realm.of(0, 3), 0);
        CHECK.due("put where there is no room", realm.put(0, 0, 0, 1), 0);
        CHECK.due("it is lost", realm.sum(2), 1);
        CHECK.due("the most", realm.put(0, 0, 0, 100000), 0);
        CHECK.due("all is lost", realm.sum(2), 100001);
        CHECK.due("nothing is there", realm.stock(0, 0, NONE), 0);
        CHECK.due("nothing to take", realm.take(0, 0, 1), 0);
    }

    private static void measuresThatAreTaken() {
        for (int measures : new int[] {1, 2, 99999, 100000}) {
            StoreRealm realm = storeOf(100000);
            realm.put(0, 1, 7, 100000);
            CHECK.due("take " + measures, realm.take(0, 1, measures), measures);
            CHECK.due("there are", realm.stock(0, 1, NONE), 100000 - measures);
            CHECK.due("room is left", realm.of(0, 3), measures);
        }
        for (int measures : new int[] {0, -1, 100001, LEAST, GREATEST}) {
            BUSY.none("take " + measures, r -> r.take(0, 0, measures));
        }
    }

    private static void takenToTheLast() {
        StoreRealm realm = storeOf(100);
        realm.put(0, 2, 0, 4);
        realm.put(0, 2, 60, 3);
        realm.put(0, 1, 30, 2);
        CHECK.due("all of the oldest", realm.take(0, 2, 3), 3);
        CHECK.due("the oldest are gone", realm.stock(0, 2, 60), 0);
        CHECK.due("the next are not", realm.stock(0, 2, 0), 4);
        CHECK.due("all but one", realm.take(0, 2, 3), 3);
        CHECK.due("one more than there is", realm.take(0, 2, 2), 1);
        CHECK.due("none there are", realm.take(0, 2, 1), 0);
        CHECK.due("none is there", realm.stock(0, 2, NONE), 0);
        CHECK.due("another KIND stays", realm.stock(0, 1, NONE), 2);
        CHECK.due("what is taken is not lost", realm.sum(1) + realm.sum(2), 0);
    }

    private static void agesOfAStock() {
        StoreRealm realm = storeOf(100);
        realm.put(0, 0, 0, 5);
        realm.put(0, 0, 60, 6);
        CHECK.due("of all", realm.stock(0, 0, NONE), 11);
        CHECK.due("of AGE 0", realm.stock(0, 0, 0), 5);
        CHECK.due("of AGE 1", realm.stock(0, 0, 1), 0);
        CHECK.due("of AGE 60", realm.stock(0, 0, 60), 6);
        CHECK.due("of no KIND there is", realm.stock(0, 1, NONE), 0);
        for (int age : new int[] {-2, 61, LEAST, GREATEST}) {
            BUSY.none("stock of AGE " + age, r -> r.stock(0, 0, age));
        }
    }

    private static void answersOf(String what, IntUnaryOperator answers, int[][] due) {
        for (int[] row : due) {
            CHECK.due(what + " " + row[0], answers.applyAsInt(row[0]), row[1]);
        }
    }

    private static void whatOfATown() {
        StoreRealm realm = BUSY.realm();
        int left = 500 - realm.stock(1, 0, NONE) - realm.stock(1, 1, NONE) - realm.stock(1, 2, NONE);
        answersOf("of 1,", what -> realm.of(1, what), new int[][] {{LEAST, NONE}, {-1, NONE}, {0, 500}, {1, 0}, {2, 10},
            {3, left}, {4, NONE}, {9, NONE}, {10, 100}, {11, 0}, {12, NONE}, {17, NONE}, {18, NONE}, {GREATEST, NONE}});
        for (int town : new int[] {-1, 2, 8, LEAST, GREATEST}) {
            for (int what : new int[] {0, 1, 2, 3, 10, 11, 12}) {
                CHECK.due("of no town", realm.of(town, what), NONE);
            }
            CHECK.due("what no town gave", realm.gave(town), NONE);
        }
    }

    private static void whatAboutTheRealm() {
        StoreRealm realm = BUSY.realm();
        answersOf("about", realm::about, new int[][] {{LEAST, NONE}, {-1, NONE}, {0, 3}, {1, 2}, {2, 2}, {3, 2}, {4, 7},
            {5, 3}, {6, 27}, {7, NONE}, {8, NONE}, {9, NONE}, {10, 12}, {11, 60}, {12, 24}, {13, NONE}, {GREATEST, NONE}});
        answersOf("sum", realm::sum, new int[][] {{LEAST, NONE}, {-1, NONE}, {6, NONE}, {GREATEST, NONE}});
        answersOf("fault", realm::fault, new int[][] {{LEAST, NONE}, {-1, NONE}, {0, 3}, {1, 23}, {2, NONE}, {GREATEST, NONE}});
    }
}
