import java.util.Arrays;
import java.util.Random;

/**
 * All promises: whatever the arguments, a call answers; a call that answers that it can't be does
 * nothing; and the same calls on another object have the same answers.
 *
 * Looking at everything takes more than the 512 calls that are promised; the program counts none.
 */
public final class StrangeCallsTest {
    private static final Check CHECK = new Check("StrangeCallsTest");
    private static final int[] STRANGE = {Integer.MIN_VALUE, Integer.MIN_VALUE + 1, -100, -2, -1, 0, 1, 2, 3, 4, 5, 6, 7,
        8, 9, 10, 11, 12, 17, 18, 30, 59, 60, 61, 80, 200, 201, 500, 501, 1000, 1001, 2000, 2001, 10000, 10001, 100000,
        100001, 1000000, 1000001, Integer.MAX_VALUE - 1, Integer.MAX_VALUE};
    private static final String[] PARTS = {"when", "move", "from", "to", "or", "and", "not", "month", "people", "stock",
        "old", "room", "maize", "cloth", "meat", "t0", "t1", "t7", "t8", "t", "0", "7", "999999", "1234567", ";", "(", ")",
        "<", ">", "=", "+", "-", "?", "\n", "abcdefghi", "move 5 maize from t0 to t1;", "when", "move 9 meat from t1 to t2;"};

    public static void main(String[] args) {
        for (int seed = 0; seed < 1500; seed++) {
            int[] first = answers(seed, false);
            CHECK.due("seed " + seed + ": the same answers", Arrays.equals(first, answers(seed, true)), true);
        }
        CHECK.close();
    }

    private static int[] answers(int seed, boolean look) {
        Random random = new Random(seed);
        StoreRealm realm = new StoreRealm();
        boolean strange = seed % 3 == 0;
        int[] answers = new int[400];
        for (int call = 0; call < answers.length; call++) {
            int method = random.nextInt(26);
            int[] a = new int[5];
            for (int i = 0; i < 5; i++) {
                a[i] = strange ? STRANGE[random.nextInt(STRANGE.length)] : random.nextInt(9) - 1;
            }
            String before = look ? look(realm) : "";
            answers[call] = method == 25 ? write(realm, random) : answer(realm, method, a);
            if (look && isRefusal(method, answers[call])) {
                CHECK.due("seed " + seed + ": method " + method + " did nothing", before.equals(look(realm)), true);
            }
        }
        return answers;
    }

    private static int write(StoreRealm realm, Random random) {
        StringBuilder text = new StringBuilder();
        int parts = random.nextInt(12);
        for (int part = 0; part < parts; part++) {
            text.append(PARTS[random.nextInt(PARTS.length)]).append(random.nextInt(5) == 0 ? "" : " ");
        }
        Check.lay(realm, text.length() > 200 ? "" : text.toString());
        return realm.about(6);
    }

    private static int answer(StoreRealm realm, int method, int[] a) {
        return switch (method) {
            case 0 -> realm.town(a[0] * 20, a[1], a[2]);
            case 1 -> realm.way(a[0], a[1], a[2]) ? 1 : 0;
            case 2 -> realm.keeps(a[0], a[1]) ? 1 : 0;
            case 3 -> realm.put(a[0], a[1], a[2], a[3] * 5);
            case 4 -> realm.take(a[0], a[1], a[2]);
            case 5 -> realm.stock(a[0], a[1], a[2]);
            case 6 -> realm.feed(a[0], a[1], a[2], a[3], a[4]);
            case 7 -> realm.end(a[0]);
            case 8 -> realm.orders();
            case 9 -> realm.fault(a[0]);
            case 10 -> realm.months(a[0]);
            case 11 -> realm.sum(a[0]);
            case 12 -> realm.feast(a[0], realm.about(0) + a[1], a[2], a[3]);
            case 13 -> realm.cancel() ? 1 : 0;
            case 14 -> realm.fed();
            case 15 -> realm.carried();
            case 16 -> realm.call(a[0]);
            case 17 -> realm.gave(a[0]);
            case 18 -> realm.tell(a[0], a[1], a[2], a[3], a[4]);
            case 19 -> realm.untell(a[0]) ? 1 : 0;
            case 20 -> realm.count(a[0], a[1], a[2], a[3]);
            case 21 -> realm.agree(a[0], a[1], a[2], a[3]);
            case 22 -> realm.of(a[0], a[1]);
            case 23 -> realm.about(a[0]);
            default -> realm.months(1);
        };
    }

    private static boolean isRefusal(int method, int answer) {
        boolean asks = method == 5 || method == 9 || method == 11 || method >= 20 && method <= 23
            || method == 14 || method == 15 || method == 17;
        boolean tells = method == 1 || method == 2 || method == 13 || method == 19;
        return method != 8 && method != 25 && (asks || answer == (tells ? 0 : StoreRealm.NONE));
    }

    private static String look(StoreRealm realm) {
        StringBuilder seen = new StringBuilder();
        for (int what = 0; what <= 12; what++) {
            seen.append(realm.about(what)).append(' ');
        }
        for (int what = 0; what < 6; what++) {
            seen.append(realm.sum(what)).append(' ');
        }
        for (int town = 0; town < 8; town++) {
            seen.append(realm.gave(town)).append(' ');
            for (int what = 0; what <= 17; what++) {
                seen.append(realm.of(town, what)).append(' ');
            }
            for (int kind = 0; kind < 3; kind++) {
                for (int age = -1; age <= 60; age++) {
                    seen.append(realm.stock(town, kind, age)).append(' ');
                }
            }
        }
        return seen.append(realm.fault(0)).append(' ').append(realm.fault(1)).append(' ')
            .append(realm.fed()).append(' ').append(realm.carried()).toString();
    }
}
