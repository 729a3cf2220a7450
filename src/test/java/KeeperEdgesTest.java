/** Promises 20 to 23: what keepers may tell and untell, and what is known in a month, from both sides. */
public final class KeeperEdgesTest {
    private static final Check CHECK = new Check("KeeperEdgesTest");
    private static final Twins BUSY = new Twins(CHECK, Twins::busyRealm);
    private static final int NONE = StoreRealm.NONE;
    private static final int LEAST = Integer.MIN_VALUE;
    private static final int GREATEST = Integer.MAX_VALUE;

    public static void main(String[] args) {
        keepersThatTell();
        townsThatAreTold();
        kindsThatAreTold();
        monthsThatAreTold();
        countsThatAreTold();
        sixtyCounts();
        untoldOnce();
        countsThatAreNone();
        knownFromTheMonthItWasTold();
        untoldInTheSameMonth();
        untoldInALaterMonth();
        theLastOfAKeeper();
        theLastThatIsNotUntold();
        mostKeepersSpeak();
        ofLikeOnesTheLeast();
        noneSpeaks();
        askedOfNothing();
        askingDoesNothing();
        CHECK.close();
    }

    private static void told(StoreRealm realm, int town, int kind, int month, int count) {
        CHECK.due("COUNT", realm.count(town, kind, month, realm.about(0)), count);
        CHECK.due("KEEPERS", realm.agree(town, kind, month, realm.about(0)), 1);
        CHECK.due("COUNTS", realm.about(5), 4);
    }

    private static void keepersThatTell() {
        for (int keeper : new int[] {0, 1, 4}) {
            StoreRealm realm = BUSY.realm();
            CHECK.due("KEEPER " + keeper, realm.tell(keeper, 1, 1, 2, 5), 3);
            told(realm, 1, 1, 2, 5);
        }
        for (int keeper : new int[] {-1, 5, LEAST, GREATEST}) {
            BUSY.none("KEEPER " + keeper, r -> r.tell(keeper, 1, 1, 2, 5));
        }
    }

    private static void townsThatAreTold() {
        for (int town : new int[] {0, 1}) {
            StoreRealm realm = BUSY.realm();
            CHECK.due("town " + town, realm.tell(0, town, 1, 2, 5), 3);
            told(realm, town, 1, 2, 5);
            CHECK.due("the other town", realm.count(1 - town, 1, 2, 3), NONE);
        }
        for (int town : new int[] {-1, 2, 8, LEAST, GREATEST}) {
            BUSY.none("tell of town " + town, r -> r.tell(0, town, 1, 2, 5));
            BUSY.none("count of town " + town, r -> r.count(town, 1, 2, 5));
            BUSY.idle("agree of town " + town, r -> r.agree(town, 1, 2, 5), 0);
        }
    }

    private static void kindsThatAreTold() {
        for (int kind = 0; kind < 3; kind++) {
            StoreRealm realm = BUSY.realm();
            CHECK.due("KIND " + kind, realm.tell(0, 0, kind, 2, 5), 3);
            told(realm, 0, kind, 2, 5);
            CHECK.due("another KIND", realm.count(0, (kind + 1) % 3, 2, 3), NONE);
        }
        for (int kind : new int[] {-1, 3, LEAST, GREATEST}) {
            BUSY.none("tell of KIND " + kind, r -> r.tell(0, 0, kind, 2, 5));
            BUSY.none("count of KIND " + kind, r -> r.count(0, kind, 2, 5));
            BUSY.idle("agree of KIND " + kind, r -> r.agree(0, kind, 2, 5), 0);
            BUSY.none("count of KIND " + kind + " in the other town", r -> r.count(1, kind, 1, 5));
            BUSY.idle("agree of KIND " + kind + " in the other town", r -> r.agree(1, kind, 1, 5), 0);
        }
    }

    private static void monthsThatAreTold() {
        for (int month = 0; month <= 3; month++) {
            StoreRealm realm = BUSY.realm();
            CHECK.due("MONTH " + month, realm.tell(0, 1, 1, month, 5), 3);
            told(realm, 1, 1, month, 5);
            CHECK.due("a MONTH before", realm.count(1, 1, month - 1, 3), NONE);
            CHECK.due("a MONTH later", realm.count(1, 1, month + 1, 3), NONE);
        }
        for (int month : new int[] {-1, 4, 2000, LEAST, GREATEST}) {
            BUSY.none("MONTH " + month, r -> r.tell(0, 1, 1, month, 5));
        }
        StoreRealm fresh = new StoreRealm();
        fresh.town(0, 0, 0);
        CHECK.due("MONTH 1 in MONTH 0", fresh.tell(0, 0, 0, 1, 5), NONE);
        CHECK.due("MONTH 0 in MONTH 0", fresh.tell(0, 0, 0, 0, 5), 0);
        for (int call = 0; call < 33; call++) {
            fresh.months(60);
        }
        fresh.months(20);
        CHECK.due("MONTH 2,001", fresh.tell(0, 0, 0, 2001, 5), NONE);
        CHECK.due("MONTH 2,000", fresh.tell(0, 0, 0, 2000, 6), 1);
        CHECK.due("as known in it", fresh.count(0, 0, 2000, 2000), 6);
        CHECK.due("as known before", fresh.count(0, 0, 2000, 1999), NONE);
        CHECK.due("of MONTH 0, known since", fresh.count(0, 0, 0, 0), 5);
    }

    private static void countsThatAreTold() {
        for (int count : new int[] {0, 1, 999999, 1000000}) {
            StoreRealm realm = BUSY.realm();
            CHECK.due("COUNT " + count, realm.tell(0, 1, 1, 2, count), 3);
            told(realm, 1, 1, 2, count);
        }
        for (int count : new int[] {-1, 1000001, LEAST, GREATEST}) {
            BUSY.none("COUNT " + count, r -> r.tell(0, 1, 1, 2, count));
        }
    }

    private static void sixtyCounts() {
        Twins full = new Twins(CHECK, realm -> {
            Twins.busyRealm(realm);
            for (int told = 3; told < 60; told++) {
                CHECK.due("COUNT number", realm.tell(told % 5, told % 2, told % 3, told % 4, told), told);
            }
            CHECK.due("COUNTS", realm.about(5), 60);
        });
        full.none("a sixty-first", r -> r.tell(0, 0, 0, 0, 0));
        full.idle("untell a sixty-first", r -> r.untell(60) ? 1 : 0, 0);
        StoreRealm realm = full.realm();
        CHECK.due("untell the sixtieth", realm.untell(59), true);
        CHECK.due("it keeps its number", realm.tell(0, 0, 0, 0, 0), NONE);
        CHECK.due("COUNTS", realm.about(5), 60);
    }

    private static void untoldOnce() {
        StoreRealm realm = BUSY.realm();
        CHECK.due("the first", realm.untell(0), true);
        CHECK.due("the last", realm.untell(2), true);
        Twins untold = new Twins(CHECK, r -> {
            Twins.busyRealm(r);
            r.untell(0);
            r.months(1);
        });
        untold.idle("once more, in a later MONTH", r -> r.untell(0) ? 1 : 0, 0);
        BUSY.idle("once more, in the same MONTH", r -> r.untell(1) ? 1 : 0, 0);
    }

    private static void countsThatAreNone() {
        for (int count : new int[] {-1, 3, 59, 60, LEAST, GREATEST}) {
            BUSY.idle("untell " + count, r -> r.untell(count) ? 1 : 0, 0);
        }
    }

    private static StoreRealm realm() {
        StoreRealm realm = new StoreRealm();
        realm.town(0, 0, 0);
        realm.months(2);
        return realm;
    }

    /** As known in the months from 1 on: the count, and how many keepers speak for it. */
    private static void known(String what, StoreRealm realm, int[] counts, int[] keepers) {
        for (int k = 1; k <= counts.length; k++) {
            CHECK.due(what + ", COUNT as known in " + k, realm.count(0, 0, 1, k), counts[k - 1]);
            CHECK.due(what + ", KEEPERS as known in " + k, realm.agree(0, 0, 1, k), keepers[k - 1]);
        }
    }

    private static void knownFromTheMonthItWasTold() {
        StoreRealm realm = realm();
        realm.tell(0, 0, 0, 1, 7);
        known("told in 2", realm, new int[] {NONE, 7, 7}, new int[] {0, 1, 1});
        realm.months(1);
        realm.tell(0, 0, 0, 1, 8);
        known("told otherwise in 3", realm, new int[] {NONE, 7, 8, 8}, new int[] {0, 1, 1, 1});
        CHECK.due("in the last of months", realm.count(0, 0, 1, GREATEST), 8);
        CHECK.due("below 0", realm.count(0, 0, 1, -1), NONE);
        CHECK.due("far below 0", realm.agree(0, 0, 1, LEAST), 0);
    }

    private static void untoldInTheSameMonth() {
        StoreRealm realm = realm();
        realm.tell(0, 0, 0, 1, 7);
        CHECK.due("untell", realm.untell(0), true);
        known("untold as it was told", realm, new int[] {NONE, NONE, NONE}, new int[] {0, 0, 0});
        realm.tell(0, 0, 0, 1, 9);
        known("told again", realm, new int[] {NONE, 9, 9}, new int[] {0, 1, 1});
    }

    private static void untoldInALaterMonth() {
        StoreRealm realm = realm();
        realm.tell(0, 0, 0, 1, 7);
        realm.tell(1, 0, 0, 1, 7);
        realm.months(2);
        CHECK.due("untell", realm.untell(0), true);
        known("untold in 4", realm, new int[] {NONE, 7, 7, 7, 7}, new int[] {0, 2, 2, 1, 1});
        realm.months(1);
        CHECK.due("untell", realm.untell(1), true);
        known("untold in 5", realm, new int[] {NONE, 7, 7, 7, NONE, NONE}, new int[] {0, 2, 2, 1, 0, 0});
    }

    private static void theLastOfAKeeper() {
        StoreRealm realm = realm();
        realm.tell(0, 0, 0, 1, 7);
        realm.tell(0, 0, 0, 1, 7);
        known("one KEEPER twice is one", realm, new int[] {NONE, 7}, new int[] {0, 1});
        realm.tell(0, 0, 0, 1, 9);
        known("the last", realm, new int[] {NONE, 9}, new int[] {0, 1});
        realm.tell(0, 0, 0, 1, 3);
        known("the last, though it is less", realm, new int[] {NONE, 3}, new int[] {0, 1});
        realm.tell(0, 0, 0, 2, 5);
        known("another MONTH is apart", realm, new int[] {NONE, 3}, new int[] {0, 1});
    }

    private static void theLastThatIsNotUntold() {
        StoreRealm realm = realm();
        realm.tell(0, 0, 0, 1, 7);
        realm.tell(0, 0, 0, 1, 9);
        realm.months(1);
        realm.untell(1);
        known("the one before speaks again", realm, new int[] {NONE, 9, 7}, new int[] {0, 1, 1});
        realm.months(1);
        realm.untell(0);
        known("none speaks", realm, new int[] {NONE, 9, 7, NONE}, new int[] {0, 1, 1, 0});
        StoreRealm first = realm();
        first.tell(0, 0, 0, 1, 7);
        first.tell(0, 0, 0, 1, 9);
        first.untell(0);
        known("the last speaks on", first, new int[] {NONE, 9}, new int[] {0, 1});
    }

    private static void mostKeepersSpeak() {
        StoreRealm realm = realm();
        for (int keeper = 0; keeper < 5; keeper++) {
            realm.tell(keeper, 0, 0, 1, 1000000);
            known("all alike", realm, new int[] {NONE, 1000000}, new int[] {0, keeper + 1});
        }
        realm.tell(4, 0, 0, 1, 0);
        realm.tell(2, 0, 0, 1, 0);
        known("three against two", realm, new int[] {NONE, 1000000}, new int[] {0, 3});
        realm.tell(0, 0, 0, 1, 0);
        known("two against three", realm, new int[] {NONE, 0}, new int[] {0, 3});
    }

    private static void ofLikeOnesTheLeast() {
        int[][] rows = {{8, 5, 6, 9, 7}, {5, 6, 7, 8, 9}, {9, 8, 7, 6, 5}};
        for (int[] row : rows) {
            StoreRealm realm = realm();
            int least = GREATEST;
            for (int keeper = 0; keeper < 5; keeper++) {
                realm.tell(keeper, 0, 0, 1, row[keeper]);
                least = Math.min(least, row[keeper]);
                known("one each", realm, new int[] {NONE, least}, new int[] {0, 1});
            }
        }
        int[][] pairs = {{6, 6, 4, 4, 9}, {4, 4, 6, 6, 1}, {4, 6, 1, 6, 4}, {6, 4, 4, 6, 0}};
        for (int[] row : pairs) {
            StoreRealm realm = realm();
            for (int keeper = 0; keeper < 5; keeper++) {
                realm.tell(keeper, 0, 0, 1, row[keeper]);
            }
            known("two against two", realm, new int[] {NONE, 4}, new int[] {0, 2});
        }
        StoreRealm zero = realm();
        zero.tell(3, 0, 0, 1, 5);
        zero.tell(4, 0, 0, 1, 0);
        known("none is less than 0", zero, new int[] {NONE, 0}, new int[] {0, 1});
    }

    private static void noneSpeaks() {
        StoreRealm realm = realm();
        known("nothing told", realm, new int[] {NONE, NONE, NONE}, new int[] {0, 0, 0});
        realm.tell(0, 0, 0, 1, 0);
        CHECK.due("of another MONTH", realm.count(0, 0, 0, 2), NONE);
        CHECK.due("of another KIND", realm.count(0, 1, 1, 2), NONE);
        CHECK.due("KEEPERS of another KIND", realm.agree(0, 1, 1, 2), 0);
    }

    private static void askedOfNothing() {
        StoreRealm realm = BUSY.realm();
        for (int month : new int[] {-1, 4, 2000, LEAST, GREATEST}) {
            CHECK.due("COUNT of MONTH " + month, realm.count(0, 0, month, 3), NONE);
            CHECK.due("KEEPERS of MONTH " + month, realm.agree(0, 0, month, 3), 0);
        }
        for (int k : new int[] {LEAST, -1, 0, 2}) {
            CHECK.due("COUNT as known in " + k, realm.count(0, 0, 1, k), NONE);
            CHECK.due("KEEPERS as known in " + k, realm.agree(0, 0, 1, k), 0);
        }
        for (int k : new int[] {3, 4, 2000, 2001, GREATEST}) {
            CHECK.due("COUNT as known in " + k, realm.count(0, 0, 1, k), 40);
            CHECK.due("KEEPERS as known in " + k, realm.agree(0, 0, 1, k), 1);
        }
    }

    private static void askingDoesNothing() {
        BUSY.idle("count", r -> r.count(0, 0, 1, 3), 40);
        BUSY.idle("agree", r -> r.agree(0, 0, 1, 3), 1);
    }
}
