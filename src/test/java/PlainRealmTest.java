import java.lang.reflect.Method;
import java.lang.reflect.Modifier;
import java.util.Arrays;
import java.util.HashMap;
import java.util.Map;
import java.util.Random;
import java.util.Set;

/**
 * All promises: runs of calls by chance on the class and on PlainRealm, the document's second
 * writing, whose answers must be alike. Each run keeps to the 512 calls that an object is good for.
 */
public final class PlainRealmTest {
    private static final Check CHECK = new Check("PlainRealmTest");
    private static final int MOST_CALLS = 512;
    private static final int[] STRANGE = {Integer.MIN_VALUE, -2, -1, 0, 1, 2, 3, 4, 5, 8, 9, 10, 17, 18, 60, 61, 200, 201,
        500, 501, 1000, 1001, 2000, 2001, 10000, 10001, 100000, 100001, 1000000, 1000001, Integer.MAX_VALUE};
    /** A method's name, how often it is called, and what its arguments are (see 'argument'). */
    private static final String[] CALLS = {"way 6 town town days", "keeps 2 kind keeping", "put 16 town kind age measures",
        "take 5 town kind measures", "stock 6 town kind ages", "end 1 place", "orders 1", "fault 2 two", "months 14 passing",
        "sum 8 six", "feast 8 town month kind measures", "cancel 4", "fed 4", "carried 4", "call 4 hands", "gave 4 town",
        "tell 8 keeper town kind past count", "untell 3 told", "count 6 town kind past past", "agree 6 town kind past past",
        "of 4 town thing", "about 4 thing", "town 1 room people tens", "feed 1 any any any any any", "write 3"};
    private static final Map<String, Method[]> METHODS = new HashMap<>();

    private final StoreRealm realm = new StoreRealm();
    private final PlainRealm plain = new PlainRealm();
    private final StringBuilder run = new StringBuilder();
    private final Random random;
    private final int seed;
    /** In a slow run little spoils and texts are good, so that there is more to move or to feed from. */
    private final boolean slow;
    private final Set<String> seldom;
    private int calls;
    private boolean alike = true;

    private PlainRealmTest(int seed) {
        this.seed = seed;
        this.random = new Random(seed);
        this.slow = seed % 3 != 0;
        this.seldom = switch (seed % 3) {
            case 0 -> Set.of();
            case 1 -> Set.of("months", "write");
            default -> Set.of("feast", "fed", "carried", "tell", "count", "agree", "call", "write", "end", "orders");
        };
    }

    public static void main(String[] args) throws ReflectiveOperationException {
        for (Method method : PlainRealm.class.getDeclaredMethods()) {
            if (Modifier.isPublic(method.getModifiers())) {
                Method first = StoreRealm.class.getMethod(method.getName(), method.getParameterTypes());
                METHODS.put(method.getName(), new Method[] {first, method});
            }
        }
        CHECK.due("all methods are compared", METHODS.size(), 24);
        int runs = args.length > 0 ? Integer.parseInt(args[0]) : 300;
        for (int seed = 0; seed < runs; seed++) {
            new PlainRealmTest(seed).goOn();
            for (int text = 0; text < 40; text++) {
                new PlainRealmTest(seed * 1000 + text).readText();
            }
        }
        CHECK.close();
    }

    private int ask(String name, int... arguments) throws ReflectiveOperationException {
        Object[] given = Arrays.stream(arguments).boxed().toArray();
        Method[] methods = METHODS.get(name);
        Object answer = methods[0].invoke(realm, given);
        Object due = methods[1].invoke(plain, given);
        calls++;
        run.append(name).append(Arrays.toString(arguments)).append(' ').append(answer).append('\n');
        if (!answer.equals(due)) {
            CHECK.due("seed " + seed + ", due was " + due + " at the end of\n" + run, false, true);
            alike = false;
        }
        return answer instanceof Integer number ? number : answer.equals(true) ? 1 : 0;
    }

    private void goOn() throws ReflectiveOperationException {
        int towns = 1 + random.nextInt(random.nextInt(8) + 1);
        for (int town = 0; town < towns; town++) {
            ask("town", argument("room"), argument("people"), argument("tens"));
        }
        for (int ways = 0; ways < 3 * towns; ways++) {
            ask("way", argument("town"), argument("town"), argument("days"));
        }
        write(PlainText.text(random, 500, 0));
        while (alike && calls < MOST_CALLS - 60) {
            String[] chosen = CALLS[random.nextInt(CALLS.length)].split(" ");
            boolean skipped = seldom.contains(chosen[0]) && random.nextInt(4) != 0;
            if (random.nextInt(16) < Integer.parseInt(chosen[1]) && !skipped) {
                if (chosen[0].equals("write")) {
                    write(PlainText.text(random, 500, slow ? 0 : 3));
                } else {
                    ask(chosen[0], Arrays.stream(chosen).skip(2).mapToInt(this::argument).toArray());
                }
            }
        }
    }

    private void readText() throws ReflectiveOperationException {
        write(PlainText.text(random, 1000, 3));
        ask("about", 2);
    }

    private void write(String text) throws ReflectiveOperationException {
        ask("end", 0);
        for (int at = 0; at < text.length(); at += 20) {
            int[] five = new int[5];
            for (int i = 0; i < 20; i++) {
                five[i / 4] = five[i / 4] << 8 | (at + i < text.length() ? text.charAt(at + i) : '?');
            }
            ask("feed", five);
        }
        ask("end", text.length());
        ask("orders");
        ask("fault", 0);
        ask("fault", 1);
    }

    private int upTo(int most) {
        return random.nextInt(most + 1);
    }

    private int argument(String what) {
        if (random.nextInt(40) == 0) {
            return STRANGE[random.nextInt(STRANGE.length)];
        }
        int now = realm.about(0);
        return switch (what) {
            // Texts tell of the first towns most often.
            case "town" -> Math.min(upTo(Math.max(0, realm.about(1) - 1)), upTo(7));
            case "kind" -> upTo(3) % 3;
            case "days" -> random.nextInt(8) == 0 ? -1 : 1 + upTo(random.nextInt(3) == 0 ? 199 : 65);
            case "keeping" -> slow ? 60 - upTo(50) : 1 + upTo(59);
            case "age" -> upTo(random.nextInt(4) == 0 ? 60 : 12);
            case "ages" -> upTo(18) - 1;
            case "measures" -> 1 + upTo(random.nextInt(10) == 0 ? 9999 : 60);
            case "room" -> upTo(random.nextBoolean() ? 300 : 100000);
            case "people" -> random.nextBoolean() ? 0 : upTo(12);
            case "tens" -> upTo(40);
            case "passing" -> !slow && random.nextInt(12) == 0 ? upTo(60) : upTo(3);
            case "month" -> now + upTo(9);
            case "past" -> random.nextBoolean() ? now / 2 * 2 : Math.max(0, now - upTo(4));
            case "hands" -> 1 + upTo(40);
            case "keeper" -> upTo(4);
            case "count" -> upTo(3);
            case "told" -> upTo(60);
            case "six" -> upTo(6);
            case "two" -> upTo(2);
            case "thing" -> upTo(18);
            case "place" -> upTo(40);
            default -> random.nextInt();
        };
    }
}
