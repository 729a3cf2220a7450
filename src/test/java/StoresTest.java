/** Promises 5 to 7: put, take, stock. */
public final class StoresTest {
    private static final Check CHECK = new Check("StoresTest");

    public static void main(String[] args) {
        puts();
        takes();
        stocks();
        CHECK.close();
    }

    private static void puts() {
        StoreRealm realm = new StoreRealm();
        CHECK.due("put into no town", realm.put(0, 0, 0, 1), StoreRealm.NONE);
        realm.town(100, 0, 0);
        realm.town(0, 0, 0);
        int[][] bad = {{-1, 0, 0, 1}, {2, 0, 0, 1}, {0, -1, 0, 1}, {0, 3, 0, 1}, {0, 0, -1, 1}, {0, 0, 61, 1},
            {0, 0, 0, 0}, {0, 0, 0, 100001}, {0, 0, 0, -5}};
        for (int[] row : bad) {
            CHECK.due("a put that can't be", realm.put(row[0], row[1], row[2], row[3]), StoreRealm.NONE);
        }
        CHECK.due("nothing was put", realm.of(0, 3), 100);
        CHECK.due("nothing is lost", realm.sum(2), 0);
        CHECK.due("put", realm.put(0, 0, 60, 40), 40);
        CHECK.due("put to the same lot", realm.put(0, 0, 60, 1), 41 - 40);
        CHECK.due("the lot", realm.stock(0, 0, 60), 41);
        CHECK.due("put what is over", realm.put(0, 2, 0, 100000), 59);
        CHECK.due("lost", realm.sum(2), 100000 - 59);
        CHECK.due("put into a full store", realm.put(0, 1, 0, 3), 0);
        CHECK.due("lost", realm.sum(2), 100000 - 59 + 3);
        CHECK.due("put where there is no room", realm.put(1, 1, 0, 1), 0);
        CHECK.due("no room", realm.of(0, 3), 0);
    }

    private static void takes() {
        StoreRealm realm = new StoreRealm();
        CHECK.due("take from no town", realm.take(0, 0, 1), StoreRealm.NONE);
        realm.town(1000, 0, 0);
        realm.put(0, 0, 3, 10);
        realm.put(0, 0, 0, 10);
        realm.put(0, 0, 59, 10);
        realm.put(0, 1, 60, 10);
        int[][] bad = {{-1, 0, 1}, {1, 0, 1}, {0, -1, 1}, {0, 3, 1}, {0, 0, 0}, {0, 0, -1}, {0, 0, 100001}};
        for (int[] row : bad) {
            CHECK.due("a take that can't be", realm.take(row[0], row[1], row[2]), StoreRealm.NONE);
        }
        CHECK.due("nothing was taken", realm.stock(0, 0, -1), 30);
        CHECK.due("take", realm.take(0, 0, 15), 15);
        CHECK.due("the oldest are gone", realm.stock(0, 0, 59), 0);
        CHECK.due("then the next", realm.stock(0, 0, 3), 5);
        CHECK.due("the youngest stay", realm.stock(0, 0, 0), 10);
        CHECK.due("another kind stays", realm.stock(0, 1, 60), 10);
        CHECK.due("take more than there is", realm.take(0, 0, 100000), 15);
        CHECK.due("take of nothing", realm.take(0, 0, 1), 0);
        CHECK.due("there is room again", realm.of(0, 3), 990);
    }

    private static void stocks() {
        StoreRealm realm = new StoreRealm();
        CHECK.due("stock of no town", realm.stock(0, 0, -1), StoreRealm.NONE);
        realm.town(1000, 0, 0);
        realm.put(0, 2, 0, 5);
        realm.put(0, 2, 60, 6);
        CHECK.due("of age 0", realm.stock(0, 2, 0), 5);
        CHECK.due("of age 60", realm.stock(0, 2, 60), 6);
        CHECK.due("of age 30", realm.stock(0, 2, 30), 0);
        CHECK.due("of all", realm.stock(0, 2, StoreRealm.NONE), 11);
        int[][] bad = {{-1, 0, 0}, {1, 0, 0}, {0, -1, 0}, {0, 3, 0}, {0, 0, 61}, {0, 0, -2}, {1, 0, -1}, {0, 3, -1}};
        for (int[] row : bad) {
            CHECK.due("a stock that can't be", realm.stock(row[0], row[1], row[2]), StoreRealm.NONE);
        }
    }
}
