import java.util.Random;

/** Promises 8 to 11: feed, end, orders, fault; and what conditions say. */
public final class OrdersTest {
    private static final Check CHECK = new Check("OrdersTest");
    private static final String LINE = "move 1 maize from t0 to t1;";

    public static void main(String[] args) {
        tape();
        goodTexts();
        noTokens();
        tokensThatCannotStand();
        alikeTowns();
        limits();
        aFaultLeavesThings();
        bytesBehindTheEnd();
        ordersOneAfterTheOther();
        terms();
        randomConditions();
        cutTexts();
        CHECK.close();
    }

    private static void tape() {
        StoreRealm realm = new StoreRealm();
        CHECK.due("end of nothing", realm.end(0), 0);
        CHECK.due("end behind nothing", realm.end(1), StoreRealm.NONE);
        for (int fed = 1; fed <= 50; fed++) {
            CHECK.due("feed", realm.feed(0, 0, 0, 0, 0), fed * 20);
        }
        CHECK.due("too much", realm.feed(0, 0, 0, 0, 0), StoreRealm.NONE);
        CHECK.due("all bytes", realm.about(6), 1000);
        CHECK.due("end below 0", realm.end(-1), StoreRealm.NONE);
        CHECK.due("end behind all", realm.end(1001), StoreRealm.NONE);
        CHECK.due("end at all", realm.end(1000), 1000);
        CHECK.due("end", realm.end(981), 981);
        CHECK.due("still too much", realm.feed(0, 0, 0, 0, 0), StoreRealm.NONE);
        CHECK.due("end again", realm.end(980), 980);
        CHECK.due("end further on", realm.end(981), StoreRealm.NONE);
        CHECK.due("feed the rest", realm.feed(0, 0, 0, 0, 0), 1000);
        CHECK.due("of zeros no orders", realm.orders(), StoreRealm.NONE);
        CHECK.due("the tape is empty", realm.about(6), 0);
    }

    private static void good(String text, int lines) {
        StoreRealm realm = new StoreRealm();
        CHECK.due("[" + text + "] orders", Check.order(realm, text), lines);
        CHECK.due("[" + text + "] fault", realm.fault(0), 0);
        CHECK.due("[" + text + "] place", realm.fault(1), StoreRealm.NONE);
        CHECK.due("[" + text + "] lines", realm.about(2), lines);
        CHECK.due("[" + text + "] tape", realm.about(6), 0);
    }

    private static void bad(String text, int fault, int place) {
        StoreRealm realm = new StoreRealm();
        CHECK.due("[" + text + "] orders", Check.order(realm, text), StoreRealm.NONE);
        CHECK.due("[" + text + "] fault", realm.fault(0), fault);
        CHECK.due("[" + text + "] place", realm.fault(1), place);
        CHECK.due("[" + text + "] lines", realm.about(2), 0);
        CHECK.due("[" + text + "] tape", realm.about(6), 0);
    }

    private static void goodTexts() {
        good("", 0);
        good("  \n ", 0);
        good(LINE, 1);
        good(LINE + LINE + " \n" + LINE, 3);
        good("move 0 cloth from t7 to t3;", 1);
        good("move\n999999 meat from t2 to t0 ; ", 1);
        good("move5 maize from t0 to t1;", 1);
        good("when(1<2)move 1 maize from t0 to t1;", 1);
        good("when not(not 1=1)and month>3-people t5+room t1 or stock t0 meat<old t1 cloth " + LINE, 1);
        good("when 1<2 or 3<4 " + LINE, 1);
    }

    private static void noTokens() {
        bad("?", 1, 0);
        bad(LINE + " \t", 1, 28);
        bad("move 1 maize from t0 to t1:", 1, 26);
        bad("move 1234567 maize from t0 to t1;", 1, 5);
        bad("move 1maize from t0 to t1;", 1, 5);
        bad("Move 1 maize from t0 to t1;", 1, 0);
        bad("move 1 maizemaiz from t0 to t1;", 1, 7);
        bad("when 1<2or 3<4 " + LINE, 1, 7);
        bad("move 1 maize from t0 to \u00ff1;", 1, 24);
        bad("move 1 maize from t0 to\r t1;", 1, 23);
        bad("when 1 < 1234567 " + LINE, 1, 9);
        good("move 123456 maize from t0 to t1;", 1);
    }

    private static void tokensThatCannotStand() {
        bad(";", 2, 0);
        bad("move", 2, 4);
        bad("move   ", 2, 7);
        bad("when", 2, 4);
        bad("maize 1", 2, 0);
        bad("corn 1=1 " + LINE, 2, 0);
        bad("xove 1 maize from t0 to t1;", 2, 0);
        bad("from 1 maize from t0 to t1;", 2, 0);
        bad("move 1 maize move t0 to t1;", 2, 13);
        bad("move 1 maize from t0 or t1;", 2, 21);
        bad(";".repeat(1000), 2, 0);
        bad(" ".repeat(996) + "move", 2, 1000);
        bad("move maize", 2, 5);
        bad("move -1 maize from t0 to t1;", 2, 5);
        bad("move 1 corn from t0 to t1;", 2, 7);
        bad("move 1 maizes from t0 to t1;", 2, 7);
        bad("move 1 maizemai from t0 to t1;", 2, 7);
        bad("move 1 maize to t0 to t1;", 2, 13);
        bad("move 1 maize from t8 to t1;", 2, 18);
        bad("move 1 maize from t0a to t1;", 2, 18);
        bad("move 1 maize from t00 to t1;", 2, 18);
        bad("move 1 maize from t 0 to t1;", 2, 18);
        bad("move 1 maize from tt0 to t1;", 2, 18);
        bad("move 1 maize from t0to t1;", 2, 18);
        bad("move 1 maize from t0 to t1", 2, 26);
        bad("move 1 maize from t0 to t1 move", 2, 27);
        bad("move 1 maize from t0 to t1;;", 2, 27);
        bad("when " + LINE, 2, 5);
        bad("when 1 " + LINE, 2, 7);
        bad("when 1 < 2 < 3 " + LINE, 2, 11);
        bad("when 1 < (2) " + LINE, 2, 9);
        bad("when 1 < " + LINE, 2, 9);
        bad("when people < 3 " + LINE, 2, 12);
        bad("when (1) < 2 " + LINE, 2, 7);
        bad("when (1 < 2 " + LINE, 2, 12);
        bad("when 1 < 2) " + LINE, 2, 10);
        bad("when 1 < 2 and " + LINE, 2, 15);
        bad("when 1 < 2 or or 1 < 2 " + LINE, 2, 14);
        bad("when 1 + < 2 " + LINE, 2, 9);
        bad("when people 1 < 2 " + LINE, 2, 12);
        bad("when stock t0 < 2 " + LINE, 2, 14);
        bad("when old maize < 2 " + LINE, 2, 9);
        bad("when room t0 maize < 2 " + LINE, 2, 13);
        bad("when t0 < 2 " + LINE, 2, 5);
        bad("when maize < 2 " + LINE, 2, 5);
        bad("when 1 <= 2 " + LINE, 2, 8);
        bad("when not " + LINE, 2, 9);
        bad("when 1 < 2 ? " + LINE, 1, 11);
        bad("move ; ?", 2, 5);
    }

    private static void alikeTowns() {
        bad("move 1 maize from t0 to t0;", 3, 24);
        bad("move 1 maize from t7 to t7", 3, 24);
        bad(LINE + "move 1 maize from t1 to t1 ?", 3, 51);
        bad("move 1 maize from t0 to t0a;", 2, 24);
        bad("move corn maize from t0 to t0;", 2, 5);
    }

    private static void limits() {
        String shortLine = "move 1 meat from t0 to t1;";
        good(shortLine.repeat(12), 12);
        bad(shortLine.repeat(12) + " move", 2, 313);
        bad(shortLine.repeat(12) + " when", 2, 313);
        bad(shortLine.repeat(12) + " ;", 2, 313);
        bad(shortLine.repeat(12) + " ?", 1, 313);
        good("when 1" + "+1".repeat(78) + "<1 " + LINE, 1);
        bad("when 1" + "+1".repeat(79) + "<1 " + LINE, 2, 165);
        bad("when 1" + "+1".repeat(79) + "<? " + LINE, 1, 165);
        bad("when 1" + "+1".repeat(79) + "< " + LINE, 2, 166);
        bad("when 1" + "+1".repeat(79) + "< people t0 " + LINE, 2, 166);
        bad("when 1" + "+1".repeat(80) + "<1 " + LINE, 2, 165);
        String half = "when 1" + "+1".repeat(38) + "<1 " + LINE;
        good(half + half, 2);
        bad(half + half + "when 1<1 " + LINE, 2, 2 * half.length() + 5);
        good(half + half + LINE, 3);
        good("when " + "(".repeat(7) + "1<1" + ")".repeat(7) + LINE, 1);
        bad("when " + "(".repeat(8) + "1<1" + ")".repeat(8) + LINE, 2, 13);
        good("when " + "not ".repeat(7) + "1<1 " + LINE, 1);
        bad("when " + "not ".repeat(8) + "1<1 " + LINE, 2, 37);
        bad("when " + "not(".repeat(4) + " not 1<1))))" + LINE, 2, 22);
        good("when " + "not(".repeat(3) + " not 1<1)))" + LINE, 1);
        bad("when " + "(".repeat(300), 2, 13);
        bad("when " + "(".repeat(8) + ")".repeat(8) + LINE, 2, 13);
        bad("when 1<1 and " + "(".repeat(8) + "?", 1, 21);
        good("when " + "(1<1)and".repeat(19) + "(1<1)" + LINE, 1);
    }

    private static void aFaultLeavesThings() {
        StoreRealm realm = new StoreRealm();
        CHECK.due("two lines", Check.order(realm, LINE + LINE), 2);
        CHECK.due("a fault", Check.order(realm, LINE + LINE + LINE + "?"), StoreRealm.NONE);
        CHECK.due("the two stay", realm.about(2), 2);
        CHECK.due("fault", realm.fault(0), 1);
        CHECK.due("place", realm.fault(1), 81);
        CHECK.due("another what", realm.fault(2), StoreRealm.NONE);
        CHECK.due("another what", realm.fault(-1), StoreRealm.NONE);
        realm.feed(0, 0, 0, 0, 0);
        CHECK.due("the fault stays", realm.fault(0), 1);
        realm.end(0);
        CHECK.due("no lines", realm.orders(), 0);
        CHECK.due("no fault", realm.fault(0), 0);
        CHECK.due("no place", realm.fault(1), StoreRealm.NONE);
        CHECK.due("none stay", realm.about(2), 0);

        StoreRealm other = new StoreRealm();
        other.town(100, 0, 0);
        other.town(100, 0, 0);
        other.way(0, 1, 1);
        other.put(0, 0, 0, 50);
        Check.order(other, "move 3 maize from t0 to t1;");
        Check.order(other, "move 9 maize from t0 to t1; move");
        other.months(1);
        CHECK.due("the old orders rule", other.sum(3), 3);
    }

    private static void cut(String text, int length, int lines, int place) {
        StoreRealm realm = new StoreRealm();
        Check.lay(realm, text);
        realm.end(length);
        CHECK.due("[" + text + "] cut at " + length, realm.orders(), lines);
        CHECK.due("[" + text + "] fault", realm.fault(0), lines == StoreRealm.NONE ? 2 : 0);
        CHECK.due("[" + text + "] place", realm.fault(1), place);
    }

    /** What was on the tape behind its end is not read. */
    private static void bytesBehindTheEnd() {
        cut(LINE + "?", 27, 1, StoreRealm.NONE);
        cut("move 12", 6, StoreRealm.NONE, 6);
        cut("move 1a", 6, StoreRealm.NONE, 6);
        cut("moves", 4, StoreRealm.NONE, 4);
        cut("move 1 maize from t0 to t12", 26, StoreRealm.NONE, 26);
        cut("move 1 maize from t0 to t1a", 26, StoreRealm.NONE, 26);
        cut("move 1 maize from t0", 19, StoreRealm.NONE, 18);
    }

    /** Nothing of the orders before is left in the new ones. */
    private static void ordersOneAfterTheOther() {
        StoreRealm realm = realm();
        for (int time = 0; time < 3; time++) {
            CHECK.due("orders", Check.order(realm, "when 0=1 move 1 cloth from t0 to t1;"), 1);
        }
        realm.months(1);
        CHECK.due("nothing goes", realm.sum(4), 0);
        for (int time = 1; time <= 4; time++) {
            CHECK.due("orders", Check.order(realm, "move 1 cloth from t0 to t1;"), 1);
            realm.months(1);
            CHECK.due("one goes each month", realm.sum(3), 1);
        }
    }

    /** A realm in which whatever a condition can ask is another number. */
    private static StoreRealm realm() {
        StoreRealm realm = new StoreRealm();
        realm.town(1000, 3, 0);
        realm.town(500, 0, 0);
        realm.way(0, 1, 30);
        realm.put(0, 0, 2, 40);
        realm.put(0, 0, 5, 25);
        realm.put(0, 1, 7, 90);
        realm.put(1, 2, 1, 11);
        realm.months(1);
        return realm;
    }

    private static boolean moves(String condition) {
        StoreRealm realm = realm();
        String text = "when " + condition + " move 1 cloth from t0 to t1;";
        CHECK.due("[" + text + "]", Check.order(realm, text), 1);
        realm.months(1);
        return realm.sum(4) == 1;
    }

    private static void terms() {
        // In month 1, when people have eaten twice from the lot that was of age 5.
        String[] terms = {"month", "people t0", "people t1", "people t2", "stock t0 maize", "stock t0 cloth",
            "stock t0 meat", "stock t1 meat", "stock t5 meat", "old t0 maize", "old t0 cloth", "old t0 meat",
            "old t7 cloth", "room t0", "room t1", "room t3", "7", "000012", "999999"};
        int[] values = {1, 3, 0, 0, 59, 90, 0, 11, 0, 19, 90, 0, 0, 851, 489, 0, 7, 12, 999999};
        for (int i = 0; i < terms.length; i++) {
            CHECK.due(terms[i] + " is", moves(terms[i] + " = " + values[i]), true);
            CHECK.due(terms[i] + " is below", moves(terms[i] + " < " + values[i]), false);
            CHECK.due(terms[i] + " is above", moves(values[i] + " < " + terms[i]), false);
            CHECK.due(terms[i] + " is not below one more", moves(terms[i] + " > " + values[i] + " - 1"), true);
        }
        StoreRealm one = realm();
        one.put(0, 2, 3, 9);
        one.put(0, 2, 4, 1);
        Check.order(one, "when old t0 meat = 1 move 1 cloth from t0 to t1;");
        one.months(1);
        CHECK.due("an oldest lot of one measure", one.sum(4), 1);
        CHECK.due("sums go from left to right", moves("10 - 3 - 2 = 5"), true);
        CHECK.due("sums may be below 0", moves("3 - 10 < 0 - 6"), true);
        CHECK.due("and is before or", moves("1=1 or 1=1 and 1=2"), true);
        CHECK.due("brackets are before all", moves("(1=1 or 1=1) and 1=2"), false);
        CHECK.due("not takes one", moves("not 1=2 and 1=2"), false);
        CHECK.due("not takes brackets", moves("not (1=2 and 1=2)"), true);
        CHECK.due("not not", moves("not not 1=2"), false);
    }

    private static final class Made {
        final StringBuilder text = new StringBuilder();
        int terms;
    }

    private static int number(Made made, Random random) {
        int sum = 0;
        int parts = 1 + random.nextInt(3);
        for (int part = 0; part < parts; part++) {
            int n = random.nextInt(4);
            boolean minus = part > 0 && random.nextBoolean();
            made.text.append(part == 0 ? "" : minus ? "-" : "+").append(n);
            made.terms++;
            sum += minus ? -n : n;
        }
        return sum;
    }

    private static boolean one(Made made, Random random, int within) {
        int way = within >= 7 || made.terms > 40 ? 2 : random.nextInt(4);
        if (way == 0) {
            made.text.append(" not ");
            return !one(made, random, within + 1);
        }
        if (way == 1) {
            made.text.append("(");
            boolean value = either(made, random, within + 1);
            made.text.append(")");
            return value;
        }
        int left = number(made, random);
        int sign = random.nextInt(3);
        made.text.append("<>=".charAt(sign));
        int right = number(made, random);
        return sign == 0 ? left < right : sign == 1 ? left > right : left == right;
    }

    private static boolean both(Made made, Random random, int within) {
        boolean value = one(made, random, within);
        while (made.terms < 40 && random.nextInt(3) == 0) {
            made.text.append(" and ");
            value &= one(made, random, within);
        }
        return value;
    }

    private static boolean either(Made made, Random random, int within) {
        boolean value = both(made, random, within);
        while (made.terms < 40 && random.nextInt(3) == 0) {
            made.text.append("\nor ");
            value |= both(made, random, within);
        }
        return value;
    }

    private static void randomConditions() {
        Random random = new Random(11);
        for (int round = 0; round < 3000; round++) {
            Made made = new Made();
            boolean value = either(made, random, 0);
            if (made.terms <= 80 && made.text.length() < 900) {
                CHECK.due("[" + made.text + "]", moves(made.text.toString()), value);
            }
        }
    }

    /** What is cut off lacks at the end, whether blanks follow or not. */
    private static void cutTexts() {
        String[] tokens = {"when", "not", "(", "month", "<", "3", "+", "people", "t1", ")", "and", "stock", "t0", "maize",
            "=", "old", "t1", "cloth", "or", "room", "t0", ">", "1", "move", "5", "meat", "from", "t1", "to", "t2", ";"};
        StringBuilder text = new StringBuilder();
        for (int i = 0; i < tokens.length; i++) {
            if (i > 0) {
                bad(text.toString(), 2, text.length());
                bad(text + "\n ", 2, text.length() + 2);
                bad(text + ".", 1, text.length());
            }
            text.append(tokens[i]).append(" ");
        }
        good(text.toString(), 1);
    }
}
