import java.util.Random;

/** Promises 18 and 19: call, gave. */
public final class LabourTest {
    private static final Check CHECK = new Check("LabourTest");

    public static void main(String[] args) {
        edges();
        likeOnes();
        fewTens();
        lateTown();
        agreesWithTheRule();
        CHECK.close();
    }

    private static void edges() {
        StoreRealm realm = new StoreRealm();
        CHECK.due("a call without towns", realm.call(1), StoreRealm.NONE);
        realm.town(0, 0, 0);
        CHECK.due("a call without tens", realm.call(1), StoreRealm.NONE);
        realm.town(0, 0, 3);
        CHECK.due("a call for none", realm.call(0), StoreRealm.NONE);
        CHECK.due("a call for less", realm.call(-1), StoreRealm.NONE);
        CHECK.due("a call for too many", realm.call(1001), StoreRealm.NONE);
        CHECK.due("a call for far too many", realm.call(Integer.MAX_VALUE), StoreRealm.NONE);
        CHECK.due("none was called", realm.about(4), 0);
        for (int call = 1; call <= 99; call++) {
            CHECK.due("a thousand more", realm.call(1000), call * 1000);
        }
        CHECK.due("nearly all", realm.call(999), 99999);
        CHECK.due("one too many", realm.call(2), StoreRealm.NONE);
        CHECK.due("the last", realm.call(1), 100000);
        CHECK.due("no more", realm.call(1), StoreRealm.NONE);
        CHECK.due("without tens it gave none", realm.gave(0), 0);
        CHECK.due("the other gave all", realm.gave(1), 100000);
        CHECK.due("no such town", realm.gave(2), StoreRealm.NONE);
        CHECK.due("no such town", realm.gave(-1), StoreRealm.NONE);
    }

    private static void likeOnes() {
        StoreRealm realm = new StoreRealm();
        for (int town = 0; town < 3; town++) {
            realm.town(0, 0, 5);
        }
        realm.call(1);
        CHECK.due("the least number first", realm.gave(0), 1);
        realm.call(1);
        CHECK.due("then the next", realm.gave(1), 1);
        realm.call(2);
        CHECK.due("then the last", realm.gave(2), 1);
        CHECK.due("and anew", realm.gave(0), 2);
    }

    private static void fewTens() {
        StoreRealm realm = new StoreRealm();
        realm.town(0, 0, 1);
        realm.town(0, 0, 3);
        realm.call(8);
        CHECK.due("of one part", realm.gave(0), 2);
        CHECK.due("of three parts", realm.gave(1), 6);
    }

    private static void lateTown() {
        StoreRealm realm = new StoreRealm();
        realm.town(0, 0, 10);
        realm.call(10);
        realm.town(0, 0, 10);
        realm.call(10);
        CHECK.due("the late town comes up", realm.gave(1), 10);
        CHECK.due("the first rests", realm.gave(0), 10);
    }

    private static void agreesWithTheRule() {
        Random random = new Random(5);
        for (int round = 0; round < 200; round++) {
            StoreRealm realm = new StoreRealm();
            int towns = 1 + random.nextInt(8);
            long[] tens = new long[towns];
            long[] gave = new long[towns];
            long all = 0;
            for (int town = 0; town < towns; town++) {
                tens[town] = random.nextInt(4) == 0 ? 0 : random.nextInt(501);
                all += tens[town];
                realm.town(0, 0, (int) tens[town]);
            }
            long called = 0;
            for (int call = 0; call < 5 && all > 0; call++) {
                int hands = 1 + random.nextInt(300);
                CHECK.due("a call", realm.call(hands), called + hands);
                for (int hand = 0; hand < hands; hand++) {
                    called++;
                    int best = -1;
                    for (int town = towns - 1; town >= 0; town--) {
                        if (tens[town] > 0 && (best < 0
                            || tens[town] * called - all * gave[town] >= tens[best] * called - all * gave[best])) {
                            best = town;
                        }
                    }
                    gave[best]++;
                }
                for (int town = 0; town < towns; town++) {
                    CHECK.due("what town " + town + " gave", realm.gave(town), gave[town]);
                }
            }
        }
    }
}
