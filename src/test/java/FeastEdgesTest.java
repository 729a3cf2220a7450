/** Promises 14 to 17: what a feast may be, and what a plan may give to it, each limit from both its sides. */
public final class FeastEdgesTest {
    private static final Check CHECK = new Check("FeastEdgesTest");
    private static final Twins BUSY = new Twins(CHECK, Twins::busyRealm);
    private static final int NONE = StoreRealm.NONE;
    private static final int LEAST = Integer.MIN_VALUE;
    private static final int GREATEST = Integer.MAX_VALUE;
    private static final int MAIZE = 0;
    private static final int CLOTH = 1;
    private static final int MEAT = 2;

    public static void main(String[] args) {
        townsOfAFeast();
        kindsOfAFeast();
        monthOfAFeast();
        lastMonthOfAFeast();
        measuresOfAFeast();
        tenFeasts();
        cancelToTheLast();
        cancelTakesTheLatest();
        fedAndCarriedDoNothing();
        withoutFeastsOrLots();
        noMoreThanALotHas();
        noMoreThanAFeastWants();
        ofItsKindAlone();
        inItsOwnTown();
        thereMustBeAWay();
        arrivesByItsMonth();
        notAboveWhatItKeeps();
        keepsFromBothSides();
        aFeastThatIsOver();
        whatIsOnItsWayIsNotGiven();
        waysAreNotJoined();
        mostThenLeast();
        allAtTheirLimits();
        CHECK.close();
    }

    private static void townsOfAFeast() {
        CHECK.due("the first town", BUSY.realm().feast(0, 3, MAIZE, 1), 2);
        CHECK.due("the last town", BUSY.realm().feast(1, 3, MAIZE, 1), 2);
        for (int town : new int[] {-1, 2, 8, LEAST, GREATEST}) {
            BUSY.none("a FEAST at town " + town, r -> r.feast(town, 3, MAIZE, 1));
        }
    }

    private static void kindsOfAFeast() {
        for (int kind = 0; kind < 3; kind++) {
            CHECK.due("KIND " + kind, BUSY.realm().feast(0, 3, kind, 1), 2);
        }
        for (int kind : new int[] {-1, 3, LEAST, GREATEST}) {
            BUSY.none("a FEAST of KIND " + kind, r -> r.feast(0, 3, kind, 1));
        }
    }

    private static void monthOfAFeast() {
        for (int month : new int[] {3, 4, 1999, 2000}) {
            CHECK.due("a FEAST in MONTH " + month, BUSY.realm().feast(0, month, MAIZE, 1), 2);
        }
        for (int month : new int[] {2, 0, -1, 2001, LEAST, GREATEST}) {
            BUSY.none("a FEAST in MONTH " + month, r -> r.feast(0, month, MAIZE, 1));
        }
        StoreRealm fresh = new StoreRealm();
        fresh.town(10, 0, 0);
        CHECK.due("a FEAST in MONTH -1", fresh.feast(0, -1, MAIZE, 1), NONE);
        CHECK.due("a FEAST in MONTH 0", fresh.feast(0, 0, MAIZE, 1), 0);
    }

    private static void lastMonthOfAFeast() {
        StoreRealm realm = new StoreRealm();
        realm.town(10, 0, 0);
        for (int call = 0; call < 33; call++) {
            realm.months(60);
        }
        realm.months(20);
        realm.put(0, CLOTH, 60, 5);
        CHECK.due("before now", realm.feast(0, 1999, CLOTH, 4), NONE);
        CHECK.due("above 2,000", realm.feast(0, 2001, CLOTH, 4), NONE);
        CHECK.due("now, the last MONTH", realm.feast(0, 2000, CLOTH, 4), 0);
        CHECK.due("it is FED", realm.fed(), 4);
    }

    private static void measuresOfAFeast() {
        for (int measures : new int[] {1, 2, 9999, 10000}) {
            StoreRealm realm = new StoreRealm();
            realm.town(100000, 0, 0);
            realm.put(0, CLOTH, 0, 100000);
            CHECK.due("a FEAST of " + measures, realm.feast(0, 0, CLOTH, measures), 0);
            CHECK.due("it has", realm.fed(), measures);
        }
        for (int measures : new int[] {0, -1, 10001, LEAST, GREATEST}) {
            BUSY.none("a FEAST of " + measures, r -> r.feast(0, 3, MAIZE, measures));
        }
    }

    private static void tenFeasts() {
        Twins ten = new Twins(CHECK, realm -> {
            Twins.busyRealm(realm);
            for (int feast = 2; feast < 10; feast++) {
                CHECK.due("FEAST " + feast, realm.feast(feast % 2, 3 + feast, feast % 3, 10 + feast), feast);
                CHECK.due("FEASTS", realm.about(3), feast + 1);
            }
        });
        ten.none("an eleventh", r -> r.feast(0, 3, MAIZE, 1));
        ten.none("an eleventh of another KIND", r -> r.feast(1, 2000, MEAT, 10000));
        StoreRealm realm = ten.realm();
        CHECK.due("cancel", realm.cancel(), true);
        CHECK.due("a tenth again", realm.feast(0, 3, MAIZE, 1), 9);
        CHECK.due("an eleventh again", realm.feast(0, 3, MAIZE, 1), NONE);
    }

    private static void cancelToTheLast() {
        Twins none = new Twins(CHECK, realm -> {
            Twins.busyRealm(realm);
            CHECK.due("cancel", realm.cancel(), true);
            CHECK.due("one is left", realm.about(3), 1);
            CHECK.due("cancel the last", realm.cancel(), true);
            CHECK.due("none is left", realm.about(3), 0);
        });
        none.idle("cancel without any", r -> r.cancel() ? 1 : 0, 0);
        CHECK.due("the first anew", none.realm().feast(0, 3, MAIZE, 1), 0);
    }

    private static void cancelTakesTheLatest() {
        StoreRealm realm = new StoreRealm();
        realm.town(100, 0, 0);
        realm.put(0, CLOTH, 0, 50);
        realm.feast(0, 0, CLOTH, 3);
        realm.feast(0, 0, CLOTH, 5);
        realm.feast(0, 0, CLOTH, 9);
        int[] due = {17, 8, 3, 0};
        for (int fed : due) {
            CHECK.due("FED by those that are left", realm.fed(), fed);
            realm.cancel();
        }
    }

    private static void fedAndCarriedDoNothing() {
        int fed = BUSY.realm().fed();
        int carried = BUSY.realm().carried();
        CHECK.due("there is something to have", fed > 0 && carried > 0, true);
        BUSY.idle("fed", StoreRealm::fed, fed);
        BUSY.idle("carried", StoreRealm::carried, carried);
        BUSY.idle("fed twice", r -> r.fed() - r.fed(), 0);
    }

    private static void withoutFeastsOrLots() {
        StoreRealm realm = new StoreRealm();
        realm.town(100, 0, 0);
        realm.put(0, CLOTH, 0, 50);
        CHECK.due("FED without FEASTS", realm.fed(), 0);
        CHECK.due("CARRIED without FEASTS", realm.carried(), 0);
        realm.take(0, CLOTH, 50);
        realm.feast(0, 0, CLOTH, 5);
        CHECK.due("FED without lots", realm.fed(), 0);
        CHECK.due("CARRIED without lots", realm.carried(), 0);
    }

    private static StoreRealm pair(int days) {
        StoreRealm realm = new StoreRealm();
        realm.town(1000, 0, 0);
        realm.town(1000, 0, 0);
        realm.way(0, 1, days);
        return realm;
    }

    private static void noMoreThanALotHas() {
        int[][] due = {{9, 9}, {10, 10}, {11, 10}, {10000, 10}};
        for (int[] row : due) {
            StoreRealm realm = pair(7);
            realm.put(0, CLOTH, 3, 10);
            realm.feast(1, 1, CLOTH, row[0]);
            CHECK.due("of ten to one that wants " + row[0], realm.fed(), row[1]);
            CHECK.due("carried", realm.carried(), row[1] * 7);
            realm.feast(1, 1, CLOTH, 5);
            CHECK.due("of ten to it and one of five", realm.fed(), 10);
            CHECK.due("none is taken for it", realm.stock(0, CLOTH, 3), 10);
        }
    }

    private static void noMoreThanAFeastWants() {
        StoreRealm realm = pair(7);
        realm.put(0, CLOTH, 3, 10);
        realm.put(1, CLOTH, 3, 10);
        realm.put(1, CLOTH, 4, 10);
        realm.feast(1, 1, CLOTH, 20);
        CHECK.due("twenty", realm.fed(), 20);
        CHECK.due("none is carried", realm.carried(), 0);
        realm.cancel();
        realm.feast(1, 1, CLOTH, 21);
        CHECK.due("twenty-one", realm.fed(), 21);
        CHECK.due("one is carried", realm.carried(), 7);
    }

    private static void ofItsKindAlone() {
        for (int kind = 0; kind < 3; kind++) {
            for (int other = 0; other < 3; other++) {
                StoreRealm realm = pair(7);
                realm.put(0, kind, 0, 10);
                realm.feast(0, 0, other, 4);
                CHECK.due("KIND " + kind + " to one of KIND " + other, realm.fed(), kind == other ? 4 : 0);
            }
        }
    }

    private static void inItsOwnTown() {
        StoreRealm realm = new StoreRealm();
        realm.town(100, 0, 0);
        realm.months(5);
        realm.put(0, CLOTH, 0, 10);
        realm.feast(0, 5, CLOTH, 4);
        CHECK.due("in its own town at once", realm.fed(), 4);
        CHECK.due("at no cost", realm.carried(), 0);
    }

    private static void thereMustBeAWay() {
        StoreRealm realm = pair(NONE);
        realm.put(0, CLOTH, 0, 10);
        realm.feast(1, 50, CLOTH, 4);
        CHECK.due("without a WAY", realm.fed(), 0);
        realm.way(1, 0, 200);
        CHECK.due("with a WAY", realm.fed(), 4);
        CHECK.due("of 200 DAYS", realm.carried(), 800);
        realm.way(0, 1, 1);
        CHECK.due("of one DAY", realm.carried(), 4);
        realm.way(0, 1, NONE);
        CHECK.due("without a WAY again", realm.fed(), 0);
    }

    private static void arrivesByItsMonth() {
        for (int days = 1; days <= 200; days++) {
            int months = (int) Math.ceil(days / 30.0);
            for (int wait = months - 1; wait <= months + 1; wait++) {
                StoreRealm realm = pair(days);
                realm.months(4);
                realm.put(0, CLOTH, 0, 10);
                realm.feast(1, 4 + wait, CLOTH, 3);
                CHECK.due(days + " DAYS in " + wait + " MONTHS", realm.fed(), wait < months ? 0 : 3);
                CHECK.due(days + " DAYS in " + wait + " MONTHS, carried", realm.carried(), wait < months ? 0 : 3 * days);
            }
        }
    }

    private static void notAboveWhatItKeeps() {
        int[] keeps = {12, 60, 24};
        for (int kind = 0; kind < 3; kind++) {
            for (int wait = 0; wait <= keeps[kind] + 1; wait++) {
                int last = keeps[kind] - wait;
                for (int age = Math.max(0, last - 1); age <= Math.min(60, last + 1); age++) {
                    StoreRealm realm = pair(1);
                    realm.months(2);
                    realm.put(0, kind, age, 10);
                    realm.feast(0, 2 + wait, kind, 3);
                    CHECK.due("AGE " + age + " in " + wait + " MONTHS of " + keeps[kind], realm.fed(), age <= last ? 3 : 0);
                    realm.cancel();
                    realm.feast(1, 2 + wait, kind, 3);
                    boolean can = wait >= 1 && age <= last;
                    CHECK.due("AGE " + age + " sent for " + wait + " MONTHS of " + keeps[kind], realm.fed(), can ? 3 : 0);
                }
            }
        }
    }

    private static void keepsFromBothSides() {
        for (int keeps : new int[] {1, 60}) {
            StoreRealm realm = pair(1);
            realm.put(0, MEAT, keeps - 1, 10);
            realm.put(0, MEAT, keeps, 20);
            realm.feast(1, 1, MEAT, 100);
            realm.keeps(MEAT, keeps);
            CHECK.due("KEEPS " + keeps, realm.fed(), 10);
            realm.feast(0, 0, MEAT, 100);
            CHECK.due("KEEPS " + keeps + ", at once, too", realm.fed(), 30);
        }
        StoreRealm changed = pair(1);
        changed.put(0, MEAT, 24, 10);
        changed.feast(0, 1, MEAT, 100);
        CHECK.due("too old then", changed.fed(), 0);
        changed.keeps(MEAT, 25);
        CHECK.due("it KEEPS longer", changed.fed(), 10);
        changed.keeps(MEAT, 24);
        CHECK.due("it KEEPS less again", changed.fed(), 0);
    }

    private static void aFeastThatIsOver() {
        StoreRealm realm = pair(1);
        realm.put(0, CLOTH, 0, 10);
        realm.feast(0, 2, CLOTH, 3);
        for (int month = 0; month < 4; month++) {
            CHECK.due("in MONTH " + month, realm.fed(), month <= 2 ? 3 : 0);
            CHECK.due("it is a FEAST", realm.about(3), 1);
            realm.months(1);
        }
        CHECK.due("it can be cancelled", realm.cancel(), true);
    }

    private static void whatIsOnItsWayIsNotGiven() {
        StoreRealm realm = pair(60);
        realm.put(0, CLOTH, 0, 10);
        Check.order(realm, "when month = 0 move 6 cloth from t0 to t1;");
        realm.months(1);
        realm.feast(1, 9, CLOTH, 10);
        CHECK.due("lots that are in STORES now", realm.fed(), 4);
        realm.months(2);
        CHECK.due("as it has arrived", realm.fed(), 10);
    }

    private static void waysAreNotJoined() {
        StoreRealm realm = pair(10);
        realm.town(100, 0, 0);
        realm.way(1, 2, 10);
        realm.put(0, CLOTH, 0, 10);
        realm.feast(2, 50, CLOTH, 5);
        CHECK.due("over another town there is no WAY", realm.fed(), 0);
        realm.way(0, 2, 100);
        CHECK.due("its own WAY", realm.carried(), 500);
    }

    private static void mostThenLeast() {
        StoreRealm realm = pair(1);
        realm.put(0, MEAT, 23, 10);
        realm.put(0, MEAT, 0, 10);
        realm.feast(0, 0, MEAT, 10);
        realm.feast(1, 2, MEAT, 10);
        // The old one serves the feast now alone, so the young one must not.
        CHECK.due("most is had", realm.fed(), 20);
        CHECK.due("by what is carried", realm.carried(), 10);
        realm.take(0, MEAT, 10);
        CHECK.due("of ten", realm.fed(), 10);
        CHECK.due("none is carried", realm.carried(), 0);
    }

    /** Ten feasts and eight towns, with lots of every age: as much as a plan can have to do with. */
    private static void allAtTheirLimits() {
        StoreRealm realm = new StoreRealm();
        for (int town = 0; town < 8; town++) {
            realm.town(100000, 0, 0);
            for (int other = 0; other < town; other++) {
                realm.way(town, other, 200);
            }
        }
        for (int town = 0; town < 7; town++) {
            for (int age = 0; age <= 60; age++) {
                realm.put(town, CLOTH, age, 1);
            }
        }
        for (int feast = 0; feast < 10; feast++) {
            realm.feast(7, 7 + 5 * feast, CLOTH, 10000);
        }
        CHECK.due("all that keep to the first", realm.fed(), 7 * 54);
        CHECK.due("carried", realm.carried(), 7 * 54 * 200);
        realm.months(60);
        CHECK.due("nothing is left", realm.fed(), 0);
        for (int town = 0; town < 8; town++) {
            realm.put(town, CLOTH, 0, 100000);
        }
        CHECK.due("all are over", realm.fed(), 0);
        for (int feast = 0; feast < 10; feast++) {
            realm.cancel();
        }
        for (int feast = 0; feast < 10; feast++) {
            realm.feast(feast % 8, 60 + 7, CLOTH, 10000);
        }
        CHECK.due("the greatest FED", realm.fed(), 100000);
        CHECK.due("none is carried", realm.carried(), 0);
        for (int town = 0; town < 8; town++) {
            realm.take(town, CLOTH, town < 2 ? 100000 : 90000);
        }
        CHECK.due("with less", realm.fed(), 60000);
        CHECK.due("each at home", realm.carried(), 0);
    }
}
