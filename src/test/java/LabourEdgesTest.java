/** Promises 18 and 19: how many hands are called, and of which towns, each limit from both its sides. */
public final class LabourEdgesTest {
    private static final Check CHECK = new Check("LabourEdgesTest");
    private static final int NONE = StoreRealm.NONE;

    public static void main(String[] args) {
        handsOfACall();
        handsInAll();
        withoutTens();
        townsWithoutTensGiveNone();
        likeOnes();
        oneBehindTheOther();
        theGreatestAndTheLeast();
        townsThatGave();
        handByHand();
        CHECK.close();
    }

    private static void handsOfACall() {
        for (int hands : new int[] {1, 2, 999, 1000}) {
            StoreRealm realm = new StoreRealm();
            realm.town(0, 0, 3);
            realm.town(0, 0, 5);
            CHECK.due("a CALL for " + hands, realm.call(hands), hands);
            CHECK.due("hands called so far", realm.about(4), hands);
            CHECK.due("all are given", realm.gave(0) + realm.gave(1), hands);
        }
        Twins busy = new Twins(CHECK, Twins::busyRealm);
        for (int hands : new int[] {0, -1, 1001, Integer.MIN_VALUE, Integer.MAX_VALUE}) {
            busy.none("a CALL for " + hands, r -> r.call(hands));
        }
        CHECK.due("behind the seven", busy.realm().call(1), 8);
        CHECK.due("a thousand behind the seven", busy.realm().call(1000), 1007);
    }

    private static void callThousands(StoreRealm realm, int times) {
        for (int time = 0; time < times; time++) {
            realm.call(1000);
        }
    }

    private static void handsInAll() {
        Twins nearly = new Twins(CHECK, realm -> {
            realm.town(0, 0, 3);
            realm.town(0, 0, 4);
            callThousands(realm, 99);
            realm.call(500);
        });
        nearly.none("up to 100,001", r -> r.call(501));
        nearly.none("up to 100,500", r -> r.call(1000));
        CHECK.due("up to 100,000", nearly.realm().call(500), 100000);
        CHECK.due("up to 99,999", nearly.realm().call(499), 99999);
        Twins all = new Twins(CHECK, realm -> {
            realm.town(0, 0, 3);
            realm.town(0, 0, 4);
            callThousands(realm, 100);
        });
        all.none("one more than 100,000", r -> r.call(1));
        all.none("none more than 100,000", r -> r.call(0));
        CHECK.due("hands called", all.realm().about(4), 100000);
    }

    private static void withoutTens() {
        Twins none = new Twins(CHECK, realm -> { });
        none.none("a CALL without towns", r -> r.call(1));
        Twins idle = new Twins(CHECK, realm -> {
            for (int town = 0; town < 8; town++) {
                realm.town(10, 10, 0);
            }
        });
        idle.none("a CALL without TENS", r -> r.call(1));
        idle.none("a great CALL without TENS", r -> r.call(1000));
        StoreRealm one = new StoreRealm();
        one.town(10, 10, 0);
        one.town(10, 10, 1);
        CHECK.due("one ten is enough", one.call(1000), 1000);
    }

    private static void townsWithoutTensGiveNone() {
        StoreRealm realm = new StoreRealm();
        int[] tens = {0, 1, 0, 500, 0, 0, 7, 0};
        for (int ten : tens) {
            realm.town(0, 0, ten);
        }
        callThousands(realm, 10);
        int sum = 0;
        for (int town = 0; town < tens.length; town++) {
            sum += realm.gave(town);
            CHECK.due("town " + town + " gives", realm.gave(town) > 0, tens[town] > 0);
        }
        CHECK.due("all are given", sum, 10000);
    }

    private static void likeOnes() {
        StoreRealm realm = new StoreRealm();
        realm.town(0, 0, 0);
        for (int town = 1; town < 8; town++) {
            realm.town(0, 0, 9);
        }
        for (int hand = 0; hand < 21; hand++) {
            int least = 1 + hand % 7;
            CHECK.due("before", realm.gave(least), hand / 7);
            realm.call(1);
            CHECK.due("of like ones the least number", realm.gave(least), hand / 7 + 1);
        }
    }

    private static void oneBehindTheOther() {
        StoreRealm realm = new StoreRealm();
        realm.town(0, 0, 30);
        realm.town(0, 0, 10);
        // 30 h - 40 g against 10 h - 40 g: 30 and 10, 20 and 20, 10 and 30, 40 and 0, and anew.
        int[] due = {0, 0, 1, 0, 0, 0, 1, 0};
        int[] gave = {0, 0};
        for (int town : due) {
            realm.call(1);
            gave[town]++;
            CHECK.due("the first gave", realm.gave(0), gave[0]);
            CHECK.due("the other gave", realm.gave(1), gave[1]);
        }
    }

    private static void theGreatestAndTheLeast() {
        StoreRealm realm = new StoreRealm();
        realm.town(0, 0, 1);
        for (int town = 1; town < 8; town++) {
            realm.town(0, 0, 500);
        }
        callThousands(realm, 100);
        int sum = 0;
        for (int town = 0; town < 8; town++) {
            double share = 100000.0 * realm.of(town, 2) / 3501;
            CHECK.due("town " + town + " gave its share", Math.abs(realm.gave(town) - share) <= 1, true);
            sum += realm.gave(town);
        }
        CHECK.due("all", sum, 100000);
        StoreRealm late = new StoreRealm();
        late.town(0, 0, 500);
        callThousands(late, 99);
        for (int town = 1; town < 8; town++) {
            late.town(0, 0, 500);
        }
        late.call(1000);
        CHECK.due("the first has given enough", late.gave(0), 99000);
        CHECK.due("the second gives", late.gave(1), 143);
        CHECK.due("the last gives", late.gave(7), 142);
    }

    private static void townsThatGave() {
        Twins busy = new Twins(CHECK, Twins::busyRealm);
        CHECK.due("the first", busy.realm().gave(0) + busy.realm().gave(1), 7);
        for (int town : new int[] {-1, 2, 8, Integer.MIN_VALUE, Integer.MAX_VALUE}) {
            busy.none("what town " + town + " gave", r -> r.gave(town));
        }
        StoreRealm fresh = new StoreRealm();
        fresh.town(0, 0, 1);
        CHECK.due("before any CALL", fresh.gave(0), 0);
    }

    private static void handByHand() {
        StoreRealm atOnce = new StoreRealm();
        StoreRealm oneByOne = new StoreRealm();
        for (int tens : new int[] {3, 0, 17, 500, 1}) {
            atOnce.town(0, 0, tens);
            oneByOne.town(0, 0, tens);
        }
        atOnce.call(300);
        for (int hand = 0; hand < 300; hand++) {
            oneByOne.call(1);
        }
        for (int town = 0; town < 5; town++) {
            CHECK.due("town " + town + " gave", atOnce.gave(town), oneByOne.gave(town));
        }
    }
}
