/** Promises 1 to 4, 24 and 25: a new object, towns, ways, keeping, and what is told of them. */
public final class TownsTest {
    private static final Check CHECK = new Check("TownsTest");

    public static void main(String[] args) {
        newObject();
        towns();
        ways();
        keeping();
        ofTowns();
        aboutAll();
        CHECK.close();
    }

    private static void newObject() {
        StoreRealm realm = new StoreRealm();
        int[] abouts = {0, 0, 0, 0, 0, 0, 0};
        for (int what = 0; what < abouts.length; what++) {
            CHECK.due("new: about " + what, realm.about(what), abouts[what]);
        }
        for (int what = 0; what < 6; what++) {
            CHECK.due("new: sum " + what, realm.sum(what), 0);
        }
        CHECK.due("new: maize keeps", realm.about(10), 12);
        CHECK.due("new: cloth keeps", realm.about(11), 60);
        CHECK.due("new: meat keeps", realm.about(12), 24);
        CHECK.due("new: fault", realm.fault(0), 0);
        CHECK.due("new: fault's place", realm.fault(1), StoreRealm.NONE);
        CHECK.due("new: fed", realm.fed(), 0);
        CHECK.due("new: carried", realm.carried(), 0);
        CHECK.due("new: of", realm.of(0, 0), StoreRealm.NONE);
        CHECK.due("new: stock", realm.stock(0, 0, 0), StoreRealm.NONE);
    }

    private static void towns() {
        StoreRealm realm = new StoreRealm();
        int[][] bad = {{-1, 0, 0}, {100001, 0, 0}, {0, -1, 0}, {0, 1001, 0}, {0, 0, -1}, {0, 0, 501},
            {Integer.MIN_VALUE, 0, 0}, {0, Integer.MAX_VALUE, 0}};
        for (int[] row : bad) {
            CHECK.due("a town that can't be", realm.town(row[0], row[1], row[2]), StoreRealm.NONE);
        }
        CHECK.due("no town yet", realm.about(1), 0);
        CHECK.due("the least town", realm.town(0, 0, 0), 0);
        CHECK.due("the greatest town", realm.town(100000, 1000, 500), 1);
        for (int town = 2; town < 8; town++) {
            CHECK.due("one town more", realm.town(town, 1, 2), town);
        }
        CHECK.due("a ninth town", realm.town(1, 1, 1), StoreRealm.NONE);
        CHECK.due("eight towns", realm.about(1), 8);
        CHECK.due("the last one's room", realm.of(7, 0), 7);
        CHECK.due("the last one's days to itself", realm.of(7, 17), 0);
        CHECK.due("days to a ninth", realm.of(7, 18), StoreRealm.NONE);
    }

    private static void ways() {
        StoreRealm realm = new StoreRealm();
        realm.town(1, 1, 1);
        realm.town(1, 1, 1);
        CHECK.due("no way at first", realm.of(0, 11), StoreRealm.NONE);
        CHECK.due("the shortest way", realm.way(0, 1, 1), true);
        CHECK.due("its days", realm.of(0, 11), 1);
        CHECK.due("its days back", realm.of(1, 10), 1);
        CHECK.due("the longest way", realm.way(1, 0, 200), true);
        CHECK.due("its days", realm.of(0, 11), 200);
        int[][] bad = {{0, 0, 5}, {0, 1, 0}, {0, 1, 201}, {0, 1, -2}, {0, 2, 5}, {2, 0, 5}, {-1, 0, 5}, {0, -1, 5},
            {0, 0, -1}, {5, 5, -1}, {0, 1, Integer.MIN_VALUE}};
        for (int[] row : bad) {
            CHECK.due("a way that can't be", realm.way(row[0], row[1], row[2]), false);
        }
        CHECK.due("the way is as it was", realm.of(0, 11), 200);
        CHECK.due("to itself", realm.of(0, 10), 0);
        CHECK.due("the way is taken away", realm.way(0, 1, StoreRealm.NONE), true);
        CHECK.due("no way", realm.of(0, 11), StoreRealm.NONE);
        CHECK.due("no way back", realm.of(1, 10), StoreRealm.NONE);
    }

    private static void keeping() {
        StoreRealm realm = new StoreRealm();
        CHECK.due("keeps a month", realm.keeps(0, 1), true);
        CHECK.due("keeps sixty", realm.keeps(2, 60), true);
        int[][] bad = {{0, 0}, {0, 61}, {-1, 5}, {3, 5}, {0, -1}, {Integer.MAX_VALUE, 5}};
        for (int[] row : bad) {
            CHECK.due("keeping that can't be", realm.keeps(row[0], row[1]), false);
        }
        CHECK.due("maize", realm.about(10), 1);
        CHECK.due("cloth", realm.about(11), 60);
        CHECK.due("meat", realm.about(12), 60);
    }

    private static void ofTowns() {
        StoreRealm realm = new StoreRealm();
        realm.town(90, 8, 7);
        realm.town(50, 5, 3);
        realm.way(0, 1, 33);
        realm.put(0, 1, 0, 30);
        realm.put(0, 2, 4, 11);
        int[][] due = {{0, 90}, {1, 8}, {2, 7}, {3, 49}, {4, -1}, {9, -1}, {10, 0}, {11, 33}, {12, -1}, {17, -1},
            {18, -1}, {-1, -1}, {Integer.MAX_VALUE, -1}, {Integer.MIN_VALUE, -1}};
        for (int[] row : due) {
            CHECK.due("of 0, " + row[0], realm.of(0, row[0]), row[1]);
        }
        CHECK.due("of no town", realm.of(2, 0), StoreRealm.NONE);
        CHECK.due("of town -1", realm.of(-1, 0), StoreRealm.NONE);
    }

    private static void aboutAll() {
        StoreRealm realm = new StoreRealm();
        realm.town(90, 8, 7);
        realm.town(90, 8, 7);
        realm.months(3);
        Check.order(realm, "move 1 maize from t0 to t1; move 1 meat from t1 to t0;");
        realm.feast(0, 3, 0, 1);
        realm.call(5);
        realm.tell(0, 0, 0, 0, 0);
        realm.tell(0, 0, 0, 0, 0);
        realm.untell(0);
        realm.feed(1, 2, 3, 4, 5);
        int[] due = {3, 2, 2, 1, 5, 2, 20, -1, -1, -1, 12, 60, 24, -1};
        for (int what = 0; what < due.length; what++) {
            CHECK.due("about " + what, realm.about(what), due[what]);
        }
        CHECK.due("about -1", realm.about(-1), StoreRealm.NONE);
        CHECK.due("about the least", realm.about(Integer.MIN_VALUE), StoreRealm.NONE);
        CHECK.due("about the greatest", realm.about(Integer.MAX_VALUE), StoreRealm.NONE);
    }
}
