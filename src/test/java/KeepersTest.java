/** Promises 20 to 23: tell, untell, count, agree. */
public final class KeepersTest {
    private static final Check CHECK = new Check("KeepersTest");

    public static void main(String[] args) {
        edges();
        sixty();
        asKnown();
        likeOnes();
        backToTheOneBefore();
        apart();
        CHECK.close();
    }

    private static StoreRealm realm() {
        StoreRealm realm = new StoreRealm();
        realm.town(0, 0, 0);
        realm.town(0, 0, 0);
        realm.months(2);
        return realm;
    }

    private static void known(StoreRealm realm, int k, int count, int agree) {
        CHECK.due("count as known in " + k, realm.count(0, 0, 1, k), count);
        CHECK.due("agree as known in " + k, realm.agree(0, 0, 1, k), agree);
    }

    private static void edges() {
        StoreRealm realm = realm();
        int[][] bad = {{-1, 0, 0, 0, 0}, {5, 0, 0, 0, 0}, {0, -1, 0, 0, 0}, {0, 2, 0, 0, 0}, {0, 0, -1, 0, 0},
            {0, 0, 3, 0, 0}, {0, 0, 0, -1, 0}, {0, 0, 0, 3, 0}, {0, 0, 0, 0, -1}, {0, 0, 0, 0, 1000001}};
        for (int[] row : bad) {
            CHECK.due("a count that can't be", realm.tell(row[0], row[1], row[2], row[3], row[4]), StoreRealm.NONE);
        }
        CHECK.due("no count", realm.about(5), 0);
        CHECK.due("untell none", realm.untell(0), false);
        CHECK.due("untell -1", realm.untell(-1), false);
        CHECK.due("the least", realm.tell(0, 0, 0, 0, 0), 0);
        CHECK.due("the greatest", realm.tell(4, 1, 2, 2, 1000000), 1);
        CHECK.due("count 0", realm.count(0, 0, 0, 2), 0);
        CHECK.due("agree with 0", realm.agree(0, 0, 0, 2), 1);
        CHECK.due("count a million", realm.count(1, 2, 2, 2), 1000000);
        CHECK.due("untell one that is not", realm.untell(2), false);
        int[][] none = {{2, 0, 0}, {-1, 0, 0}, {0, 3, 0}, {0, -1, 0}, {0, 0, 3}, {0, 0, -1}, {0, 0, 1}, {1, 2, 1}};
        for (int[] row : none) {
            CHECK.due("no count", realm.count(row[0], row[1], row[2], 2), StoreRealm.NONE);
            CHECK.due("no voice", realm.agree(row[0], row[1], row[2], 2), 0);
        }
    }

    private static void sixty() {
        StoreRealm realm = realm();
        for (int told = 0; told < 60; told++) {
            CHECK.due("one more", realm.tell(told % 5, 0, 0, 0, told), told);
        }
        CHECK.due("too many", realm.tell(0, 0, 0, 0, 0), StoreRealm.NONE);
        CHECK.due("untell", realm.untell(59), true);
        CHECK.due("an untold one still has its number", realm.tell(0, 0, 0, 0, 0), StoreRealm.NONE);
        CHECK.due("sixty", realm.about(5), 60);
        CHECK.due("untell a sixty-first", realm.untell(60), false);
        CHECK.due("the least of the last ones", realm.count(0, 0, 0, 2), 54);
    }

    private static void asKnown() {
        StoreRealm realm = realm();
        realm.tell(0, 0, 0, 1, 7);
        realm.months(1);
        realm.tell(1, 0, 0, 1, 9);
        realm.tell(2, 0, 0, 1, 9);
        realm.months(2);
        CHECK.due("untell", realm.untell(1), true);
        CHECK.due("untell again", realm.untell(1), false);
        realm.months(1);
        CHECK.due("untell later", realm.untell(2), true);
        known(realm, Integer.MIN_VALUE, StoreRealm.NONE, 0);
        known(realm, 1, StoreRealm.NONE, 0);
        known(realm, 2, 7, 1);
        known(realm, 3, 9, 2);
        known(realm, 4, 9, 2);
        known(realm, 5, 7, 1);
        known(realm, 6, 7, 1);
        known(realm, Integer.MAX_VALUE, 7, 1);
    }

    private static void likeOnes() {
        StoreRealm realm = realm();
        realm.tell(0, 0, 0, 1, 8);
        realm.tell(1, 0, 0, 1, 5);
        realm.tell(2, 0, 0, 1, 6);
        known(realm, 2, 5, 1);
        realm.tell(3, 0, 0, 1, 8);
        known(realm, 2, 8, 2);
        realm.tell(4, 0, 0, 1, 6);
        known(realm, 2, 6, 2);
        realm.tell(1, 0, 0, 1, 8);
        known(realm, 2, 8, 3);
    }

    private static void backToTheOneBefore() {
        StoreRealm realm = realm();
        realm.tell(0, 0, 0, 1, 8);
        realm.tell(0, 0, 0, 1, 5);
        known(realm, 2, 5, 1);
        realm.untell(1);
        known(realm, 2, 8, 1);
        realm.untell(0);
        known(realm, 2, StoreRealm.NONE, 0);
    }

    private static void apart() {
        StoreRealm realm = realm();
        realm.tell(0, 0, 0, 1, 8);
        realm.tell(1, 1, 0, 1, 5);
        realm.tell(2, 0, 1, 1, 5);
        realm.tell(3, 0, 0, 2, 5);
        known(realm, 2, 8, 1);
        CHECK.due("another town", realm.count(1, 0, 1, 2), 5);
        CHECK.due("a kind that is none", realm.count(0, 3, 1, 2), StoreRealm.NONE);
        CHECK.due("a kind that is none", realm.agree(0, 3, 1, 2), 0);
        CHECK.due("a kind that is none", realm.count(1, -1, 1, 2), StoreRealm.NONE);
        CHECK.due("another kind", realm.count(0, 1, 1, 2), 5);
        CHECK.due("another month", realm.count(0, 0, 2, 2), 5);
    }
}
