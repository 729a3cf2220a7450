/** Promises 8 to 11: the limits of the tape, of tokens, of texts, and the place and kind of each fault. */
public final class OrderEdgesTest {
    private static final Check CHECK = new Check("OrderEdgesTest");
    private static final int NONE = StoreRealm.NONE;
    private static final int NO_TOKEN = 1;
    private static final int CANNOT_STAND = 2;
    private static final int ALIKE = 3;
    private static final String LINE = "move 1 meat from t0 to t1;";

    public static void main(String[] args) {
        highestByteFirst();
        aThousandBytesOnTheTape();
        endOfTheTape();
        aTextOfAThousandBytes();
        anEmptyText();
        eachByteAlone();
        blanks();
        wordsOfEightLetters();
        numbersOfSixDigits();
        whatStandsBehindANumber();
        digitsOfATown();
        whatStandsBehindATown();
        asLongAsCanBe();
        twelveLines();
        eightyTerms();
        eightyTermsOfAllLines();
        withinSevenOthers();
        withinEightOthers();
        withinIsLeftAgain();
        alikeTowns();
        theFirstByItsPlace();
        theLeastAtOnePlace();
        atTheEnd();
        faultOfTheLatest();
        aFaultChangesNothing();
        CHECK.close();
    }

    private static void good(String text, int lines) {
        StoreRealm realm = new StoreRealm();
        CHECK.due("[" + text + "] lines", Check.order(realm, text), lines);
        CHECK.due("[" + text + "] FAULT", realm.fault(0), 0);
        CHECK.due("[" + text + "] place", realm.fault(1), NONE);
        CHECK.due("[" + text + "] lines of ORDERS", realm.about(2), lines);
        CHECK.due("[" + text + "] TAPE", realm.about(6), 0);
    }

    private static void bad(String text, int fault, int place) {
        StoreRealm realm = new StoreRealm();
        CHECK.due("[" + text + "] lines", Check.order(realm, text), NONE);
        CHECK.due("[" + text + "] FAULT", realm.fault(0), fault);
        CHECK.due("[" + text + "] place", realm.fault(1), place);
        CHECK.due("[" + text + "] lines of ORDERS", realm.about(2), 0);
        CHECK.due("[" + text + "] TAPE", realm.about(6), 0);
    }

    private static void highestByteFirst() {
        StoreRealm realm = new StoreRealm();
        CHECK.due("twenty bytes", realm.feed(0x6d6f7665, 0x2031206d, 0x65617420, 0x66726f6d, 0x20743020), 20);
        CHECK.due("twenty more", realm.feed(0x746f2074, 0x313b2020, 0x20202020, 0x20202020, 0x2020203f), 40);
        CHECK.due("without the last", realm.end(39), 39);
        CHECK.due("'" + LINE + "' and blanks", realm.orders(), 1);
        // The highest bit of a number is a byte's, and no sign.
        realm.feed(0x20202020, 0x20ff2020, 0x20202020, 0x20202020, 0x20202020);
        CHECK.due("byte 255", realm.orders(), NONE);
        CHECK.due("its FAULT", realm.fault(0), NO_TOKEN);
        CHECK.due("its place", realm.fault(1), 5);
        realm.feed(0x20202020, 0x20202020, 0x20202020, 0x20202020, 0xa0202020);
        CHECK.due("byte 160", realm.orders(), NONE);
        CHECK.due("its place", realm.fault(1), 16);
    }

    private static void feedBlanks(StoreRealm realm, int times) {
        for (int time = 0; time < times; time++) {
            realm.feed(0x20202020, 0x20202020, 0x20202020, 0x20202020, 0x20202020);
        }
    }

    private static void aThousandBytesOnTheTape() {
        StoreRealm realm = new StoreRealm();
        feedBlanks(realm, 49);
        CHECK.due("up to 1,000", realm.feed(0, 0, 0, 0, 0), 1000);
        Twins full = new Twins(CHECK, r -> feedBlanks(r, 50));
        full.none("above 1,000", r -> r.feed(0x3f3f3f3f, 0, 0, 0, 0));
        Twins nearly = new Twins(CHECK, r -> {
            feedBlanks(r, 50);
            r.end(981);
        });
        nearly.none("up to 1,001", r -> r.feed(0x3f3f3f3f, 0, 0, 0, 0));
        StoreRealm just = new StoreRealm();
        feedBlanks(just, 50);
        just.end(980);
        CHECK.due("up to 1,000 again", just.feed(0x20202020, 0x20202020, 0x20202020, 0x20202020, 0x2020203f), 1000);
        CHECK.due("its last byte is read", just.orders(), NONE);
        CHECK.due("at its place", just.fault(1), 999);
        CHECK.due("the TAPE is empty, so there is room", just.feed(0, 0, 0, 0, 0), 20);
    }

    private static void endOfTheTape() {
        Twins twins = new Twins(CHECK, r -> Check.lay(r, LINE));
        twins.none("below 0", r -> r.end(-1));
        twins.none("far below 0", r -> r.end(Integer.MIN_VALUE));
        twins.none("one more than it has", r -> r.end(27));
        twins.none("far more than it has", r -> r.end(Integer.MAX_VALUE));
        twins.idle("all that it has", r -> r.end(26), 26);
        StoreRealm realm = twins.realm();
        CHECK.due("one less", realm.end(25), 25);
        CHECK.due("what is gone is gone", realm.end(26), NONE);
        CHECK.due("bytes", realm.about(6), 25);
        CHECK.due("nothing", realm.end(0), 0);
        CHECK.due("no bytes", realm.about(6), 0);
        CHECK.due("nothing again", realm.end(0), 0);
        CHECK.due("one of nothing", realm.end(1), NONE);
    }

    private static void aTextOfAThousandBytes() {
        String blanks = " ".repeat(1000);
        good(blanks, 0);
        good(blanks.substring(26) + LINE, 1);
        good(LINE + blanks.substring(26), 1);
        bad(blanks.substring(25) + LINE.substring(0, 25), CANNOT_STAND, 1000);
        bad(blanks.substring(1) + ";", CANNOT_STAND, 999);
        bad(blanks.substring(1) + "?", NO_TOKEN, 999);
        bad(blanks.substring(7) + "1234567", NO_TOKEN, 993);
        bad("a".repeat(1000), NO_TOKEN, 0);
        bad("1".repeat(1000), NO_TOKEN, 0);
        bad("(".repeat(1000), CANNOT_STAND, 0);
        bad("when" + "(".repeat(996), CANNOT_STAND, 12);
        bad("when " + "not ".repeat(248) + "not", CANNOT_STAND, 37);
        bad("when 1" + "+1".repeat(497), CANNOT_STAND, 165);
        // Twelve lines with as many 'not' as have room.
        String nots = ("when " + "not ".repeat(7) + "1=2 " + LINE).repeat(12);
        good(nots + blanks.substring(nots.length()), 12);
    }

    private static void anEmptyText() {
        good("", 0);
        StoreRealm realm = new StoreRealm();
        Check.order(realm, LINE + LINE);
        CHECK.due("nothing is ORDERS, too", realm.orders(), 0);
        CHECK.due("no lines", realm.about(2), 0);
    }

    private static boolean isLetter(int one) {
        return one >= 'a' && one <= 'z';
    }

    private static boolean isDigit(int one) {
        return one >= '0' && one <= '9';
    }

    private static boolean isBlank(int one) {
        return one == 32 || one == 10;
    }

    private static boolean isSign(int one) {
        return ";()<>=+-".indexOf(one) >= 0;
    }

    private static void eachByteAlone() {
        for (int one = 0; one < 256; one++) {
            String text = String.valueOf((char) one);
            if (isBlank(one)) {
                good(text, 0);
                good(LINE + text, 1);
            } else {
                boolean token = isLetter(one) || isDigit(one) || isSign(one);
                bad(text, token ? CANNOT_STAND : NO_TOKEN, 0);
                bad(LINE + text, token ? CANNOT_STAND : NO_TOKEN, 26);
            }
        }
    }

    private static void blanks() {
        String[] tokens = {"when", "1", "<", "2", "move", "1", "meat", "from", "t0", "to", "t1", ";"};
        for (String blank : new String[] {" ", "\n", "  ", "\n\n", " \n "}) {
            good(blank + String.join(blank, tokens) + blank, 1);
        }
        good("when 1<2 move1 meat from t0 to t1;", 1);
        good("when(1<2)move1 meat from t0 to t1;when(1<2)move1 meat from t0 to t1;", 2);
        bad("when 1<2move 1 meat from t0 to t1;", NO_TOKEN, 7);
        bad("move 1 meat from t0 to t1\t;", NO_TOKEN, 25);
        bad("move 1 meat from t0 to t1\r\n;", NO_TOKEN, 25);
        bad("mo ve 1 meat from t0 to t1;", CANNOT_STAND, 0);
        bad("move 1 2 meat from t0 to t1;", CANNOT_STAND, 7);
        bad("move 1 meat from t 0 to t1;", CANNOT_STAND, 17);
        bad("move 1 meatfrom t0 to t1;", CANNOT_STAND, 7);
    }

    private static void wordsOfEightLetters() {
        String eight = "abcdefgh";
        String nine = "abcdefghi";
        String[][] around = {{"", " 1 meat from t0 to t1;"}, {"move ", " meat from t0 to t1;"}, {"move 1 ", " from t0 to t1;"},
            {"move 1 meat ", " t0 to t1;"}, {"move 1 meat from ", " to t1;"}, {"move 1 meat from t0 ", " t1;"},
            {"move 1 meat from t0 to ", ";"}, {"move 1 meat from t0 to t1 ", ""}, {LINE, ""}, {"when ", "<1 " + LINE},
            {"when 1 ", " 1 " + LINE}, {"when stock t0 ", "<1 " + LINE}, {"when 1<1 ", " " + LINE}, {"when not ", "<1 " + LINE}};
        for (String[] text : around) {
            bad(text[0] + eight + text[1], CANNOT_STAND, text[0].length());
            bad(text[0] + nine + text[1], NO_TOKEN, text[0].length());
        }
        bad("a", CANNOT_STAND, 0);
        bad(eight, CANNOT_STAND, 0);
        bad(nine, NO_TOKEN, 0);
        bad("movemove 1 meat from t0 to t1;", CANNOT_STAND, 0);
        bad("movemovem 1 meat from t0 to t1;", NO_TOKEN, 0);
        bad("tttttttt1", CANNOT_STAND, 0);
        bad("ttttttttt1", NO_TOKEN, 0);
    }

    private static void numbersOfSixDigits() {
        for (String number : new String[] {"0", "9", "00", "12345", "123456", "000000", "999999"}) {
            good("move " + number + " meat from t0 to t1;", 1);
            good("when " + number + "<" + number + " " + LINE, 1);
        }
        for (String number : new String[] {"1234567", "0000000", "0000001", "1000000", "4294967297", "1".repeat(40)}) {
            bad("move " + number + " meat from t0 to t1;", NO_TOKEN, 5);
            bad("when " + number + "<1 " + LINE, NO_TOKEN, 5);
            bad("when 1<" + number + " " + LINE, NO_TOKEN, 7);
            bad("when 1<1+" + number + " " + LINE, NO_TOKEN, 9);
            bad(number, NO_TOKEN, 0);
        }
        bad("move meat from t0 to t1;", CANNOT_STAND, 5);
        CHECK.due("six digits are read", measuresSent("999999"), 100000);
        CHECK.due("six digits with zeros are read", measuresSent("000012"), 12);
        CHECK.due("five digits are read", measuresSent("99999"), 99999);
        CHECK.due("one digit is read", measuresSent("7"), 7);
    }

    private static int measuresSent(String number) {
        StoreRealm realm = new StoreRealm();
        realm.town(100000, 0, 0);
        realm.town(100000, 0, 0);
        realm.way(0, 1, 1);
        realm.put(0, 2, 0, 100000);
        Check.order(realm, "move " + number + " meat from t0 to t1;");
        realm.months(1);
        return realm.sum(3);
    }

    private static void whatStandsBehindANumber() {
        for (int one = 0; one < 256; one++) {
            String text = "move 12" + (char) one + " meat from t0 to t1;";
            if (isBlank(one) || isDigit(one)) {
                good(text, 1);
            } else if (isLetter(one)) {
                bad(text, NO_TOKEN, 5);
            } else {
                bad(text, isSign(one) ? CANNOT_STAND : NO_TOKEN, 7);
            }
        }
        good("when 1+1-1<1 " + LINE, 1);
        good("when(1=1)" + LINE, 1);
        bad("move 12", CANNOT_STAND, 7);
    }

    private static void digitsOfATown() {
        for (int digit = 0; digit < 10; digit++) {
            if (digit < 8) {
                good("move 1 meat from t" + digit + " to t" + (7 - digit) + ";", 1);
                good("when people t" + digit + "<1 " + LINE, 1);
            } else {
                bad("move 1 meat from t" + digit + " to t1;", CANNOT_STAND, 17);
                bad("move 1 meat from t1 to t" + digit + ";", CANNOT_STAND, 23);
                bad("when people t" + digit + "<1 " + LINE, CANNOT_STAND, 12);
            }
        }
        bad("move 1 meat from t to t1;", CANNOT_STAND, 17);
        bad("move 1 meat from 0 to t1;", CANNOT_STAND, 17);
        bad("move 1 meat from u0 to t1;", CANNOT_STAND, 17);
        bad("move 1 meat from T0 to t1;", NO_TOKEN, 17);
    }

    private static void whatStandsBehindATown() {
        for (int one = 0; one < 256; one++) {
            String text = "move 1 meat from t0 to t1" + (char) one + ";";
            if (isBlank(one)) {
                good(text, 1);
            } else if (isLetter(one) || isDigit(one)) {
                bad(text, CANNOT_STAND, 23);
            } else if (one == ';') {
                bad(text, CANNOT_STAND, 26);
            } else {
                bad(text, isSign(one) ? CANNOT_STAND : NO_TOKEN, 25);
            }
        }
        good("when room t0<room t1+people t2-people t3 " + LINE, 1);
        good("when (room t0=room t1)" + LINE, 1);
        bad("move 1 meat from t0 to t1", CANNOT_STAND, 25);
        bad("move 1 meat from t0 to t1a", CANNOT_STAND, 23);
        bad("move 1 meat from t0 to t12", CANNOT_STAND, 23);
        bad("move 1 meat from t0 to t1 ", CANNOT_STAND, 26);
        bad("move 1 meat from t0 to t1?", NO_TOKEN, 25);
    }

    private static void asLongAsCanBe() {
        bad("moves 1 meat from t0 to t1;", CANNOT_STAND, 0);
        bad("mov 1 meat from t0 to t1;", CANNOT_STAND, 0);
        bad("move 1 meats from t0 to t1;", CANNOT_STAND, 7);
        bad("move 1 meat fromt0 to t1;", CANNOT_STAND, 12);
        bad("move 1 meat from t0 tot1;", CANNOT_STAND, 20);
        bad("when notmonth<1 " + LINE, CANNOT_STAND, 5);
        bad("whenroom t0<1 " + LINE, CANNOT_STAND, 0);
        bad("whenmonth<1 " + LINE, NO_TOKEN, 0);
        bad("when stockt0 meat<1 " + LINE, CANNOT_STAND, 5);
        good("when not(1<1)and(1<1)or(1<1)" + LINE, 1);
    }

    private static void twelveLines() {
        String when = "when 1<2 " + LINE;
        good(LINE.repeat(11), 11);
        good(LINE.repeat(12), 12);
        good(when.repeat(12), 12);
        good(LINE.repeat(12) + "\n ", 12);
        bad(LINE.repeat(13), CANNOT_STAND, 312);
        bad(when.repeat(13), CANNOT_STAND, 420);
        bad(LINE.repeat(12) + "\n \n" + LINE, CANNOT_STAND, 315);
        bad(LINE.repeat(12) + " when 1<2 " + LINE, CANNOT_STAND, 313);
        bad(LINE.repeat(14), CANNOT_STAND, 312);
        bad(LINE.repeat(11) + "move 1 meat from t1 to t1;" + LINE, ALIKE, 309);
        bad(LINE.repeat(12) + "move 1 meat from t1 to t1;", CANNOT_STAND, 312);
    }

    private static void eightyTerms() {
        String before = "when 1" + "+1".repeat(77) + "<1";
        good(before + "+1 " + LINE, 1);
        good(before + "-1 " + LINE, 1);
        int place = before.length() + 3;
        String[] terms = {"1", "month", "people t0", "stock t0 meat", "old t7 cloth", "room t1"};
        for (String term : terms) {
            good(before + "+" + term + " " + LINE, 1);
            bad(before + "+1+" + term + " " + LINE, CANNOT_STAND, place);
            bad(before + "+1-" + term + " " + LINE, CANNOT_STAND, place);
            bad(before + "+" + term + "+" + term + " " + LINE, CANNOT_STAND, before.length() + 2 + term.length());
            String left = "when 1" + "+1".repeat(79) + "<";
            bad(left + " " + term + " " + LINE, CANNOT_STAND, left.length() + 1);
        }
        bad("when 1" + "+1".repeat(79) + "+1<1 " + LINE, CANNOT_STAND, 165);
        good("when " + "1<1 and ".repeat(39) + "1<1 " + LINE, 1);
        bad("when " + "1<1 and ".repeat(40) + "1<1 " + LINE, CANNOT_STAND, 325);
        bad("when " + "1<1 or ".repeat(40) + "1<1 " + LINE, CANNOT_STAND, 285);
        bad("when " + "1<1 or ".repeat(40) + "not 1<1 " + LINE, CANNOT_STAND, 289);
        bad("when " + "1<1 or ".repeat(40) + "(1<1)" + LINE, CANNOT_STAND, 286);
    }

    /** The N behind move is no term, and lines without when have none. */
    private static void eightyTermsOfAllLines() {
        String twenty = "when 1" + "+1".repeat(18) + "<1 " + LINE;
        good(twenty.repeat(4), 4);
        good(twenty.repeat(4) + LINE.repeat(8), 12);
        bad(twenty.repeat(4) + "when 1<1 " + LINE, CANNOT_STAND, twenty.length() * 4 + 5);
        bad(twenty.repeat(4) + LINE + "when month<1 " + LINE, CANNOT_STAND, twenty.length() * 4 + 31);
        StoreRealm realm = new StoreRealm();
        CHECK.due("eighty", Check.order(realm, twenty.repeat(4)), 4);
        CHECK.due("eighty in the next text", Check.order(realm, twenty.repeat(4)), 4);
        CHECK.due("a fault", Check.order(realm, twenty.repeat(4) + "when 1"), NONE);
        CHECK.due("eighty behind a fault", Check.order(realm, twenty.repeat(4)), 4);
    }

    /** A text in which each bit of 'which' is a 'not' or a bracket around what is within. */
    private static String within(int others, int which, String inmost) {
        StringBuilder text = new StringBuilder("when ");
        StringBuilder behind = new StringBuilder();
        for (int other = 0; other < others; other++) {
            boolean bracket = (which >> other & 1) != 0;
            text.append(bracket ? "(" : "not ");
            behind.append(bracket ? ")" : "");
        }
        return text + inmost + behind + LINE;
    }

    private static void withinSevenOthers() {
        for (int which = 0; which < 128; which++) {
            good(within(7, which, "1<1 "), 1);
            good(within(7, which, "month=stock t0 meat "), 1);
        }
        good(within(7, 127, "1<1 and 1<1 or 1<1 "), 1);
    }

    private static void withinEightOthers() {
        for (int which = 0; which < 256; which++) {
            int place = 5 + Integer.bitCount(which) + 4 * (8 - Integer.bitCount(which));
            bad(within(8, which, "1<1 "), CANNOT_STAND, place);
            bad(within(8, which, "  room t0<1 "), CANNOT_STAND, place + 2);
            bad(within(8, which, "not 1<1 "), CANNOT_STAND, place);
            bad(within(8, which, "(1<1)"), CANNOT_STAND, place);
        }
        bad(within(7, 127, "1<1 or not 1<1"), CANNOT_STAND, 23);
        bad(within(7, 127, "1<1 and(1<1)"), CANNOT_STAND, 20);
    }

    private static void withinIsLeftAgain() {
        String seven = "(".repeat(7) + "1<1" + ")".repeat(7);
        good("when " + seven + "and" + seven + "or" + seven + LINE, 1);
        good("when " + "not ".repeat(7) + "1<1 and " + "not ".repeat(7) + "1<1 " + LINE, 1);
        good(("when " + seven + LINE).repeat(3), 3);
        bad("when " + seven + "and(" + seven + ")" + LINE, CANNOT_STAND, 5 + seven.length() + 4 + 7);
        bad("when " + seven + "or not " + seven + LINE, CANNOT_STAND, 5 + seven.length() + 7 + 7);
    }

    private static void alikeTowns() {
        for (int town = 0; town < 8; town++) {
            bad("move 1 meat from t" + town + " to t" + town + ";", ALIKE, 23);
            bad("move 1 meat from t" + town + "\nto\n\nt" + town + " ;", ALIKE, 24);
            good("move 1 meat from t" + town + " to t" + (town + 1) % 8 + ";", 1);
        }
        bad(LINE + "when 1<1 move 1 meat from t4 to t4;", ALIKE, 58);
        good("move 1 meat from t0 to t1;move 1 meat from t1 to t0;", 2);
        good("when people t0=people t0 " + LINE, 1);
    }

    private static void theFirstByItsPlace() {
        bad("move 1 meat from t1 to t1 ?", ALIKE, 23);
        bad("move 1 meat from t1 to t1 t1", ALIKE, 23);
        bad("move 1 meat from t1 to t1", ALIKE, 23);
        bad("move 1 corn from t1 to t1;?", CANNOT_STAND, 7);
        bad("move 1 meat from t1 ? t1;", NO_TOKEN, 20);
        bad("move ? corn from t1 to t1;", NO_TOKEN, 5);
        bad("move 1 meat from t1 to t1;" + LINE.repeat(12), ALIKE, 23);
        bad("? move", NO_TOKEN, 0);
        bad("from ?", CANNOT_STAND, 0);
    }

    private static void theLeastAtOnePlace() {
        bad(LINE.repeat(12) + "?", NO_TOKEN, 312);
        bad(LINE.repeat(12) + "1234567", NO_TOKEN, 312);
        bad("when 1" + "+1".repeat(79) + "<? " + LINE, NO_TOKEN, 165);
        bad("when 1" + "+1".repeat(79) + "<1x " + LINE, NO_TOKEN, 165);
        bad("when " + "(".repeat(8) + "?", NO_TOKEN, 13);
        bad("when " + "(".repeat(8) + "abcdefghi", NO_TOKEN, 13);
        bad("move 1 meat from t1 to ?", NO_TOKEN, 23);
    }

    private static void atTheEnd() {
        String whole = "when not(people t0+1<stock t1 meat)" + LINE;
        for (String blank : new String[] {"", " ", "\n\n"}) {
            bad("when " + blank, CANNOT_STAND, 5 + blank.length());
            bad("when not(" + blank, CANNOT_STAND, 9 + blank.length());
            bad("when not(people " + blank, CANNOT_STAND, 16 + blank.length());
            bad("when not(people t0+1<" + blank, CANNOT_STAND, 21 + blank.length());
            bad(whole.substring(0, 34) + blank, CANNOT_STAND, 34 + blank.length());
            bad(whole.substring(0, 35) + blank, CANNOT_STAND, 35 + blank.length());
            bad(whole.substring(0, whole.length() - 1) + blank, CANNOT_STAND, whole.length() - 1 + blank.length());
            good(whole + blank, 1);
        }
        bad(LINE.repeat(12) + "move", CANNOT_STAND, 312);
        bad("when " + "(".repeat(8), CANNOT_STAND, 13);
        bad("when 1" + "+1".repeat(79) + "<", CANNOT_STAND, 165);
    }

    private static void faultOfTheLatest() {
        StoreRealm realm = new StoreRealm();
        CHECK.due("no orders() yet", realm.fault(0), 0);
        CHECK.due("no place yet", realm.fault(1), NONE);
        Check.order(realm, "  ?");
        Check.order(realm, "move 1 meat from t2 to t2;");
        CHECK.due("the latest FAULT", realm.fault(0), ALIKE);
        CHECK.due("its place", realm.fault(1), 23);
        realm.feed(0, 0, 0, 0, 0);
        realm.end(0);
        realm.months(1);
        CHECK.due("still the latest", realm.fault(0), ALIKE);
        Check.order(realm, "move");
        CHECK.due("another FAULT", realm.fault(0), CANNOT_STAND);
        CHECK.due("another place", realm.fault(1), 4);
        Check.order(realm, "move 1 meat from t2 to t2;");
        Check.order(realm, "move 1 ?");
        CHECK.due("a third", realm.fault(0), NO_TOKEN);
        CHECK.due("its place", realm.fault(1), 7);
        Check.order(realm, LINE);
        CHECK.due("without a FAULT", realm.fault(0), 0);
        CHECK.due("without a place", realm.fault(1), NONE);
        for (int what : new int[] {-1, 2, 3, Integer.MIN_VALUE, Integer.MAX_VALUE}) {
            CHECK.due("fault " + what, realm.fault(what), NONE);
            Check.order(realm, "?");
            CHECK.due("fault " + what + " with a FAULT", realm.fault(what), NONE);
        }
    }

    /** But for the tape and what fault() tells: so the twin without has a fault of its own. */
    private static void aFaultChangesNothing() {
        String[] faulty = {"?", "move 99 maize from t0 to t1;?", "move 99 maize from t0 to t0;", LINE.repeat(13),
            "when 1=1 move 99 maize from t0 to t1; move", "when 1=2 " + LINE + ";"};
        for (String text : faulty) {
            Twins twins = new Twins(CHECK, r -> {
                Twins.busyRealm(r);
                r.end(0);
                Check.order(r, text);
            });
            twins.idle("the same FAULT again", r -> Check.order(r, text), NONE);
            StoreRealm realm = twins.realm();
            CHECK.due("those there are stay", realm.about(2), 2);
            CHECK.due("the TAPE is empty", realm.about(6), 0);
            int before = realm.sum(3);
            realm.months(1);
            CHECK.due("they are obeyed", realm.sum(3) - before, 6 + 4);
        }
    }
}
