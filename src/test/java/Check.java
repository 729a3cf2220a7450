import java.nio.charset.StandardCharsets;

/** What the tests share: answers compared with those that are due, and texts laid on the tape. */
final class Check {
    private final String test;
    private int wrong;

    Check(String test) {
        this.test = test;
    }

    void due(String what, long got, long want) {
        if (got != want) {
            wrong++;
            System.out.println(test + ": " + what + " answered " + got + ", due is " + want);
        }
    }

    void due(String what, boolean got, boolean want) {
        due(what, got ? 1 : 0, want ? 1 : 0);
    }

    void close() {
        if (wrong != 0) {
            System.out.println(test + ": " + wrong + " answers are not as due");
            System.exit(1);
        }
    }

    static void lay(StoreRealm realm, String text) {
        byte[] bytes = text.getBytes(StandardCharsets.ISO_8859_1);
        int before = realm.about(6);
        for (int at = 0; at < bytes.length; at += 20) {
            realm.feed(four(bytes, at), four(bytes, at + 4), four(bytes, at + 8), four(bytes, at + 12), four(bytes, at + 16));
        }
        realm.end(before + bytes.length);
    }

    static int order(StoreRealm realm, String text) {
        lay(realm, text);
        return realm.orders();
    }

    private static int four(byte[] bytes, int at) {
        int number = 0;
        for (int i = at; i < at + 4; i++) {
            number = number << 8 | (i < bytes.length ? bytes[i] & 255 : ' ');
        }
        return number;
    }
}
