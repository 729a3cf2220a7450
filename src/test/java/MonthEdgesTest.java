/** Promises 12 and 13: how many months there may be, the five steps of one, loads, and what orders ask. */
public final class MonthEdgesTest {
    private static final Check CHECK = new Check("MonthEdgesTest");
    private static final int NONE = StoreRealm.NONE;
    private static final int MAIZE = 0;
    private static final int CLOTH = 1;
    private static final int MEAT = 2;

    public static void main(String[] args) {
        monthsAtOnce();
        monthsInAll();
        monthsOneByOne();
        whatArrivesGrowsOlder();
        whatArrivesIsEaten();
        whatArrivesGoesOn();
        whatSpoilsIsNotEaten();
        whatIsEatenDoesNotGo();
        whatIsSentIsOneMonthOlder();
        theMonthThatIsAsked();
        lineByLine();
        inTheOrderItWasSent();
        arrivesIntoAFullStore();
        olderThanItKeeps();
        spoiltAsItArrives();
        spoiltTakesNoRoom();
        keepsOtherwiseOnItsWay();
        olderThanSixtyOnItsWay();
        hungerFromBothSides();
        daysIntoMonths();
        measuresOfALine();
        sixtyLoads();
        sixtyLoadsOfManyLines();
        loadsThatMakeRoom();
        townsThatAreNone();
        townsThatAreNoneInAnE();
        waysThatAreNone();
        sumsOfAnE();
        CHECK.close();
    }

    /** Two towns of that room without people, and a way between them. */
    private static StoreRealm pair(int room, int otherRoom, int days) {
        StoreRealm realm = new StoreRealm();
        realm.town(room, 0, 0);
        realm.town(otherRoom, 0, 0);
        realm.way(0, 1, days);
        return realm;
    }

    private static void orders(StoreRealm realm, String text) {
        CHECK.due("[" + text + "] has no fault", Check.order(realm, text) != NONE, true);
    }

    private static void monthsAtOnce() {
        for (int months : new int[] {0, 1, 2, 59, 60}) {
            StoreRealm realm = new StoreRealm();
            CHECK.due("months " + months, realm.months(months), months);
            CHECK.due("the MONTH", realm.about(0), months);
        }
        Twins busy = new Twins(CHECK, Twins::busyRealm);
        for (int months : new int[] {-1, 61, Integer.MIN_VALUE, Integer.MAX_VALUE, Integer.MAX_VALUE - 1}) {
            busy.none("months " + months, r -> r.months(months));
        }
        busy.idle("months 0", r -> r.months(0), 3);
    }

    private static void monthsUpTo(StoreRealm realm, int month) {
        for (int call = 0; call < 40; call++) {
            realm.months(Math.min(60, month - realm.about(0)));
        }
    }

    private static void monthsInAll() {
        int[][] due = {{1940, 60, 2000}, {1941, 60, NONE}, {1941, 59, 2000}, {1999, 1, 2000}, {1999, 2, NONE}, {1999, 0, 1999},
            {2000, 0, 2000}, {2000, 1, NONE}, {2000, 60, NONE}, {2000, -1, NONE}};
        for (int[] row : due) {
            StoreRealm realm = new StoreRealm();
            monthsUpTo(realm, row[0]);
            CHECK.due(row[1] + " months from " + row[0], realm.months(row[1]), row[2]);
            CHECK.due("the MONTH then", realm.about(0), row[2] == NONE ? row[0] : row[2]);
        }
        Twins last = new Twins(CHECK, realm -> {
            Twins.busyRealm(realm);
            monthsUpTo(realm, 1990);
            realm.put(0, MAIZE, 0, 70);
        });
        last.none("eleven months from 1990", r -> r.months(11));
        last.none("sixty months from 1990", r -> r.months(60));
    }

    private static void monthsOneByOne() {
        StoreRealm atOnce = new StoreRealm();
        StoreRealm oneByOne = new StoreRealm();
        Twins.busyRealm(atOnce);
        Twins.busyRealm(oneByOne);
        atOnce.months(9);
        for (int month = 0; month < 9; month++) {
            oneByOne.months(1);
        }
        for (int what = 0; what < 6; what++) {
            CHECK.due("sum " + what, atOnce.sum(what), oneByOne.sum(what));
        }
        for (int age = NONE; age <= 60; age++) {
            CHECK.due("maize of AGE " + age, atOnce.stock(1, MAIZE, age), oneByOne.stock(1, MAIZE, age));
        }
    }

    private static void whatArrivesGrowsOlder() {
        StoreRealm realm = pair(100, 100, 1);
        realm.put(0, CLOTH, 10, 5);
        orders(realm, "move 5 cloth from t0 to t1;");
        realm.months(1);
        CHECK.due("on its way", realm.sum(3), 5);
        realm.months(1);
        CHECK.due("a month older in its STORE, too", realm.stock(1, CLOTH, 12), 5);
    }

    private static void whatArrivesIsEaten() {
        StoreRealm realm = new StoreRealm();
        realm.town(100, 0, 0);
        realm.town(100, 5, 0);
        realm.way(0, 1, 1);
        realm.put(0, MAIZE, 0, 5);
        realm.put(1, MAIZE, 0, 5);
        orders(realm, "move 5 maize from t0 to t1;");
        realm.months(2);
        CHECK.due("no HUNGER", realm.sum(0), 0);
        CHECK.due("all is eaten", realm.stock(1, MAIZE, NONE), 0);
    }

    private static void whatArrivesGoesOn() {
        StoreRealm realm = pair(100, 100, 1);
        realm.town(100, 0, 0);
        realm.way(1, 2, 1);
        realm.put(0, CLOTH, 0, 5);
        orders(realm, "move 5 cloth from t1 to t2; move 5 cloth from t0 to t1;");
        realm.months(2);
        CHECK.due("arrived", realm.sum(5), 5);
        CHECK.due("on its way again", realm.sum(3), 5);
        realm.months(1);
        CHECK.due("in the third town", realm.stock(2, CLOTH, 3), 5);
    }

    private static void whatSpoilsIsNotEaten() {
        StoreRealm realm = new StoreRealm();
        realm.town(100, 5, 0);
        realm.put(0, MAIZE, 12, 5);
        realm.months(1);
        CHECK.due("SPOILT", realm.sum(1), 5);
        CHECK.due("HUNGER", realm.sum(0), 5);
    }

    private static void whatIsEatenDoesNotGo() {
        StoreRealm realm = new StoreRealm();
        realm.town(100, 3, 0);
        realm.town(100, 0, 0);
        realm.way(0, 1, 1);
        realm.put(0, MAIZE, 0, 5);
        orders(realm, "when stock t0 maize = 2 move 5 maize from t0 to t1;");
        realm.months(1);
        CHECK.due("what is left goes", realm.sum(3), 2);
        CHECK.due("no HUNGER", realm.sum(0), 0);
    }

    private static void whatIsSentIsOneMonthOlder() {
        StoreRealm realm = pair(100, 100, 1);
        realm.keeps(MEAT, 5);
        realm.put(0, MEAT, 5, 8);
        realm.put(0, MEAT, 4, 7);
        orders(realm, "when old t0 meat = 7 move 99 meat from t0 to t1;");
        realm.months(1);
        CHECK.due("what is SPOILT doesn't go", realm.sum(1), 8);
        CHECK.due("what keeps goes", realm.sum(3), 7);
    }

    private static void theMonthThatIsAsked() {
        for (int month = 0; month < 3; month++) {
            StoreRealm realm = pair(100, 100, 1);
            realm.put(0, CLOTH, 0, 5);
            orders(realm, "when month = " + month + " move 1 cloth from t0 to t1;");
            realm.months(month);
            CHECK.due("not before MONTH " + month, realm.stock(0, CLOTH, NONE), 5);
            realm.months(1);
            CHECK.due("in MONTH " + month, realm.stock(0, CLOTH, NONE), 4);
            realm.months(1);
            CHECK.due("not behind MONTH " + month, realm.stock(0, CLOTH, NONE), 4);
        }
    }

    private static void lineByLine() {
        StoreRealm realm = pair(100, 100, 1);
        realm.put(0, CLOTH, 0, 10);
        orders(realm, "when stock t0 cloth < 10 move 1 cloth from t0 to t1; move 4 cloth from t0 to t1;"
            + "when stock t0 cloth = 6 move 2 cloth from t0 to t1; when room t0 = 96 move 1 cloth from t0 to t1;"
            + "when stock t1 cloth > 0 move 1 cloth from t0 to t1;");
        realm.months(1);
        CHECK.due("asked as things are then", realm.sum(3), 4 + 2 + 1);
        CHECK.due("three loads", realm.sum(4), 3);
    }

    private static void inTheOrderItWasSent() {
        StoreRealm realm = pair(100, 10, 60);
        realm.town(100, 0, 0);
        realm.way(2, 1, 1);
        realm.put(2, MEAT, 0, 8);
        realm.put(0, CLOTH, 0, 8);
        orders(realm, "when month = 1 move 8 meat from t2 to t1; when month = 0 move 8 cloth from t0 to t1;");
        realm.months(2);
        CHECK.due("two loads", realm.sum(4), 2);
        realm.months(1);
        CHECK.due("sent first, it has its room first", realm.stock(1, CLOTH, NONE), 8);
        CHECK.due("sent then, it has what is left", realm.stock(1, MEAT, NONE), 2);
        CHECK.due("what is over is lost", realm.sum(2), 6);

        StoreRealm ages = pair(100, 10, 1);
        ages.put(0, CLOTH, 3, 8);
        ages.put(0, CLOTH, 7, 8);
        orders(ages, "move 99 cloth from t0 to t1;");
        ages.months(2);
        CHECK.due("the oldest is sent first", ages.stock(1, CLOTH, 9), 8);
        CHECK.due("and then the next", ages.stock(1, CLOTH, 5), 2);
    }

    private static void arrivesIntoAFullStore() {
        int[][] due = {{9, 0}, {10, 0}, {11, 1}};
        for (int[] row : due) {
            StoreRealm realm = pair(100, 10, 1);
            realm.put(0, CLOTH, 0, row[0]);
            orders(realm, "move 99 cloth from t0 to t1;");
            realm.months(2);
            CHECK.due("of " + row[0] + " lost", realm.sum(2), row[1]);
            CHECK.due("of " + row[0] + " in the STORE", realm.stock(1, CLOTH, 2), row[0] - row[1]);
            CHECK.due("of " + row[0] + " arrived", realm.sum(5), row[0]);
        }
    }

    private static void olderThanItKeeps() {
        for (int kind = 0; kind < 3; kind++) {
            for (int keeps : new int[] {1, 2, 24, 59, 60}) {
                StoreRealm realm = new StoreRealm();
                realm.town(1000, 0, 0);
                realm.keeps(kind, keeps);
                realm.put(0, kind, keeps - 1, 5);
                realm.put(0, kind, keeps, 7);
                realm.months(1);
                CHECK.due("older than " + keeps, realm.sum(1), 7);
                CHECK.due("not older than " + keeps, realm.stock(0, kind, keeps), 5);
                CHECK.due("there is room", realm.of(0, 3), 995);
                realm.months(1);
                CHECK.due("a month later", realm.sum(1), 12);
                CHECK.due("gone", realm.stock(0, kind, NONE), 0);
            }
        }
        StoreRealm old = new StoreRealm();
        old.town(1000, 0, 0);
        old.put(0, MAIZE, 60, 3);
        CHECK.due("put in too old it stays to the month's end", old.stock(0, MAIZE, NONE), 3);
        old.months(1);
        CHECK.due("and is SPOILT in it", old.sum(1), 3);
    }

    /** Two months on its way, it is a month older as it arrives than as it was sent. */
    private static StoreRealm arrivesOfAge(int age, int room) {
        StoreRealm realm = pair(100, room, 60);
        realm.keeps(MEAT, 10);
        realm.put(0, MEAT, age - 2, 6);
        orders(realm, "when month = 0 move 6 meat from t0 to t1;");
        realm.months(2);
        CHECK.due("on its way", realm.sum(3), 6);
        CHECK.due("not SPOILT on its way", realm.sum(1), 0);
        return realm;
    }

    private static void spoiltAsItArrives() {
        for (int age = 8; age <= 11; age++) {
            StoreRealm realm = arrivesOfAge(age, 100);
            realm.months(1);
            // What arrives is a month older at once: of AGE 10 it is SPOILT in its STORE.
            boolean keeps = age < 10;
            CHECK.due("arriving of AGE " + age + " it is there", realm.stock(1, MEAT, NONE), keeps ? 6 : 0);
            CHECK.due("arriving of AGE " + age + " it is SPOILT", realm.sum(1), keeps ? 0 : 6);
            CHECK.due("arriving of AGE " + age + " it arrived", realm.sum(5), 6);
            CHECK.due("none is on its way", realm.sum(3) + realm.sum(4), 0);
        }
    }

    private static void spoiltTakesNoRoom() {
        StoreRealm last = arrivesOfAge(10, 4);
        last.months(1);
        CHECK.due("not older than it KEEPS: there was room for four", last.sum(1), 4);
        CHECK.due("two are lost", last.sum(2), 2);
        StoreRealm older = arrivesOfAge(11, 4);
        older.months(1);
        CHECK.due("older than it KEEPS: all is SPOILT", older.sum(1), 6);
        CHECK.due("none is lost", older.sum(2), 0);
    }

    private static void keepsOtherwiseOnItsWay() {
        StoreRealm longer = arrivesOfAge(11, 100);
        longer.keeps(MEAT, 12);
        longer.months(1);
        CHECK.due("it KEEPS longer as it arrives", longer.stock(1, MEAT, 12), 6);
        StoreRealm less = arrivesOfAge(8, 100);
        less.keeps(MEAT, 7);
        less.months(1);
        CHECK.due("it KEEPS less as it arrives", less.sum(1), 6);
    }

    private static void olderThanSixtyOnItsWay() {
        StoreRealm realm = pair(100, 16, 200);
        realm.put(0, CLOTH, 59, 8);
        realm.put(0, CLOTH, 54, 7);
        realm.put(0, CLOTH, 53, 6);
        realm.put(0, CLOTH, 52, 5);
        realm.put(0, CLOTH, 51, 4);
        orders(realm, "move 99 cloth from t0 to t1;");
        realm.months(7);
        CHECK.due("on its way", realm.sum(3), 30);
        CHECK.due("as five loads", realm.sum(4), 5);
        CHECK.due("none is SPOILT on its way", realm.sum(1), 0);
        realm.months(1);
        CHECK.due("all arrived", realm.sum(5), 30);
        CHECK.due("SPOILT as they arrived or a month older", realm.sum(1), 8 + 7 + 6);
        CHECK.due("sixty months old", realm.stock(1, CLOTH, 60), 5);
        CHECK.due("one month less", realm.stock(1, CLOTH, 59), 4);
        CHECK.due("none is lost", realm.sum(2), 0);
    }

    private static void hungerFromBothSides() {
        int[][] due = {{0, 10, 0, 0}, {0, 9, 0, 1}, {0, 11, 1, 0}, {3, 6, 0, 1}, {3, 7, 0, 0}, {3, 8, 1, 0}, {0, 1, 0, 9}};
        for (int[] row : due) {
            StoreRealm realm = new StoreRealm();
            realm.town(100, 10, 0);
            if (row[0] > 0) {
                realm.put(0, MAIZE, 5, row[0]);
            }
            realm.put(0, MAIZE, 2, row[1]);
            realm.put(0, MEAT, 2, 50);
            realm.months(1);
            CHECK.due("what is left", realm.stock(0, MAIZE, NONE), row[2]);
            CHECK.due("HUNGER", realm.sum(0), row[3]);
            CHECK.due("meat is not eaten", realm.stock(0, MEAT, 3), 50);
        }
        StoreRealm most = new StoreRealm();
        for (int town = 0; town < 8; town++) {
            most.town(0, 1000, 0);
        }
        monthsUpTo(most, 2000);
        CHECK.due("HUNGER of all months", most.sum(0), 8 * 1000 * 2000);
    }

    private static void daysIntoMonths() {
        for (int days = 1; days <= 200; days++) {
            StoreRealm realm = pair(100, 100, days);
            realm.put(0, CLOTH, 0, 9);
            orders(realm, "when month = 0 move 9 cloth from t0 to t1;");
            int months = (int) Math.ceil(days / 30.0);
            realm.months(months);
            CHECK.due(days + " DAYS: on its way", realm.sum(4), 1);
            realm.months(1);
            CHECK.due(days + " DAYS: there", realm.stock(1, CLOTH, months + 1), 9);
        }
    }

    private static void measuresOfALine() {
        int[][] due = {{0, 0}, {1, 1}, {9, 9}, {10, 10}, {11, 10}, {999999, 10}};
        for (int[] row : due) {
            StoreRealm realm = pair(100, 100, 1);
            realm.put(0, CLOTH, 4, 4);
            realm.put(0, CLOTH, 2, 6);
            orders(realm, "move " + row[0] + " cloth from t0 to t1;");
            realm.months(1);
            CHECK.due("of " + row[0] + " go", realm.sum(3), row[1]);
            CHECK.due("of " + row[0] + " loads", realm.sum(4), row[1] == 0 ? 0 : row[1] <= 4 ? 1 : 2);
            CHECK.due("of " + row[0] + " stay", realm.stock(0, CLOTH, NONE), 10 - row[1]);
            CHECK.due("the oldest go first", realm.stock(0, CLOTH, 5), Math.max(0, 4 - row[1]));
        }
        StoreRealm none = pair(100, 100, 1);
        orders(none, "move 5 cloth from t0 to t1;");
        none.months(1);
        CHECK.due("of nothing there is no load", none.sum(4), 0);
    }

    /** So many lots of cloth of two measures, each of another AGE. */
    private static StoreRealm withLots(int lots, int days) {
        StoreRealm realm = pair(1000, 1000, days);
        for (int age = 0; age < lots; age++) {
            realm.put(0, CLOTH, age, 2);
        }
        return realm;
    }

    private static void sixtyLoads() {
        for (int lots = 58; lots <= 60; lots++) {
            StoreRealm realm = withLots(lots, 200);
            realm.put(0, MEAT, 3, 5);
            realm.put(0, MEAT, 4, 5);
            orders(realm, "move 999 cloth from t0 to t1; move 999 meat from t0 to t1;");
            realm.months(1);
            int meatLoads = Math.min(2, 60 - lots);
            CHECK.due(lots + " lots: cloth goes", realm.stock(0, CLOTH, NONE), 0);
            CHECK.due(lots + " lots: loads", realm.sum(4), lots + meatLoads);
            CHECK.due(lots + " lots: measures", realm.sum(3), lots * 2 + meatLoads * 5);
            CHECK.due(lots + " lots: what can't go stays", realm.stock(0, MEAT, NONE), 10 - meatLoads * 5);
            CHECK.due(lots + " lots: the youngest stay", realm.stock(0, MEAT, 4), meatLoads == 2 ? 0 : 5);
            CHECK.due(lots + " lots: none is lost or SPOILT", realm.sum(1) + realm.sum(2), 0);
        }
    }

    private static void sixtyLoadsOfManyLines() {
        StoreRealm realm = pair(1000, 1000, 200);
        realm.put(0, CLOTH, 0, 500);
        orders(realm, "move 1 cloth from t0 to t1;".repeat(12));
        int[] loads = {12, 24, 36, 48, 60, 60, 60};
        for (int due : loads) {
            realm.months(1);
            CHECK.due("a line's load is its own", realm.sum(4), due);
            CHECK.due("of a measure", realm.sum(3), due);
        }
        realm.months(1);
        CHECK.due("twelve arrived", realm.sum(5), 12);
        CHECK.due("twelve went", realm.sum(4), 60);
        realm.months(1);
        CHECK.due("twelve more arrived", realm.sum(5), 24);
        CHECK.due("in the order in which they were sent", realm.sum(4), 60);
    }

    private static void loadsThatMakeRoom() {
        StoreRealm realm = withLots(60, 1);
        realm.put(0, MEAT, 0, 5);
        orders(realm, "move 999 cloth from t0 to t1; move 999 meat from t0 to t1;");
        realm.months(1);
        CHECK.due("sixty", realm.sum(4), 60);
        CHECK.due("meat stays", realm.stock(0, MEAT, 1), 5);
        realm.months(1);
        CHECK.due("what arrives makes room in that month", realm.sum(4), 1);
        CHECK.due("meat goes", realm.sum(3), 5);
    }

    private static void townsThatAreNone() {
        for (int towns = 1; towns < 8; towns++) {
            StoreRealm realm = new StoreRealm();
            for (int town = 0; town < towns; town++) {
                realm.town(100, 0, 0);
                realm.put(town, CLOTH, 0, 9);
            }
            String first = "move 1 cloth from t" + towns + " to t0;";
            String second = "move 1 cloth from t0 to t" + towns + ";";
            orders(realm, first + second + "move 1 cloth from t7 to t6;");
            realm.months(1);
            CHECK.due("from or to no town", realm.sum(4), 0);
            CHECK.due("all stays", realm.stock(0, CLOTH, NONE), 9);
            realm.town(100, 0, 0);
            realm.put(towns, CLOTH, 0, 9);
            realm.way(0, towns, 1);
            realm.months(1);
            CHECK.due("once it is one", realm.sum(4), 2);
        }
    }

    private static void townsThatAreNoneInAnE() {
        String[] terms = {"people t7", "stock t7 maize", "stock t7 cloth", "old t7 meat", "room t7", "people t2", "room t2"};
        for (String term : terms) {
            StoreRealm realm = pair(100, 100, 1);
            realm.put(0, CLOTH, 0, 9);
            orders(realm, "when " + term + " = 0 move 1 cloth from t0 to t1; when " + term + " > 0 move 1 cloth from t0 to t1;"
                + "when " + term + " < 0 move 1 cloth from t0 to t1; when 5 - " + term + " = 5 move 2 cloth from t0 to t1;");
            realm.months(1);
            CHECK.due(term + " is 0", realm.sum(3), 3);
        }
    }

    private static void waysThatAreNone() {
        StoreRealm realm = pair(100, 100, NONE);
        realm.put(0, CLOTH, 0, 9);
        orders(realm, "move 5 cloth from t0 to t1;");
        realm.months(2);
        CHECK.due("without a WAY none goes", realm.sum(4), 0);
        CHECK.due("it stays", realm.stock(0, CLOTH, 2), 9);
        realm.way(0, 1, 31);
        realm.months(1);
        CHECK.due("with a WAY it goes", realm.sum(3), 5);
        realm.way(0, 1, NONE);
        realm.months(1);
        CHECK.due("none goes again", realm.sum(4), 1);
        realm.months(1);
        CHECK.due("what was sent arrives", realm.stock(1, CLOTH, 5), 5);
        StoreRealm other = pair(100, 100, 200);
        other.put(0, CLOTH, 0, 9);
        orders(other, "when month = 0 move 5 cloth from t0 to t1;");
        other.months(1);
        other.way(0, 1, 1);
        other.months(6);
        CHECK.due("it arrives as it was sent", other.sum(4), 1);
        other.months(1);
        CHECK.due("then", other.sum(5), 5);
    }

    private static boolean holds(String e) {
        StoreRealm realm = pair(100000, 100, 1);
        realm.put(0, CLOTH, 0, 5);
        orders(realm, "when " + e + " move 1 cloth from t0 to t1;");
        realm.months(1);
        return realm.sum(4) == 1;
    }

    /** Eighty terms are too few to make a sum wrap; the greatest and the least stand as ints. */
    private static void sumsOfAnE() {
        String most = "999999" + "+999999".repeat(77);
        String least = "0" + "-999999".repeat(77);
        CHECK.due("the greatest sum is above 0", holds(most + ">0"), true);
        CHECK.due("the greatest sum is above all numbers", holds(most + ">999999"), true);
        CHECK.due("the least sum is below 0", holds(least + "<0"), true);
        CHECK.due("the least sum is not above a number", holds(least + ">1"), false);
        CHECK.due("a sum may come back", holds("999999" + "+999999-999999".repeat(38) + "=999999"), true);
        CHECK.due("below and not", holds("1<1"), false);
        CHECK.due("below", holds("1<2"), true);
        CHECK.due("above and not", holds("1>1"), false);
        CHECK.due("above", holds("2>1"), true);
        CHECK.due("alike", holds("1=1"), true);
        CHECK.due("not alike", holds("1=2"), false);
        CHECK.due("below 0", holds("0-1<0"), true);
        CHECK.due("room of a great STORE", holds("room t0 = 99995"), true);
        CHECK.due("room of a STORE", holds("room t1 = 100"), true);
        CHECK.due("old of nothing", holds("old t1 cloth = 0"), true);
    }
}
