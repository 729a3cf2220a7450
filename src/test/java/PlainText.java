import java.util.Random;

/** Texts of orders by chance, most of them good or nearly so, some of them at the limits. */
final class PlainText {
    private static final String[] KINDS = {"maize", "maize", "cloth", "meat"};
    private static final String[] STRAY = {"when", "move", "from", "to", "or", "and", "not", "month", "people", "stock",
        "old", "room", "maize", "t0", "t7", "t8", "t", "0", "999999", "1234567", ";", "(", ")", "<", ">", "=", "+", "-", "?",
        "\n", " ", "abcdefgh", "abcdefghi", "T", "\u00ff", "\u0000", "1a", "t0a", "t12"};

    private final Random random;
    private final StringBuilder text = new StringBuilder();
    private final int mostTerms;
    private final int mostWithin;
    private int terms;

    private PlainText(Random random) {
        this.random = random;
        this.mostTerms = random.nextInt(8) == 0 ? 75 + random.nextInt(8) : 30;
        this.mostWithin = random.nextInt(4) == 0 ? 9 : 4;
    }

    /** Without strays a text is good, or nearly always so, and empty if it would be too long. */
    static String text(Random random, int mostBytes, int mostStrays) {
        PlainText made = new PlainText(random);
        int lines = mostStrays > 0 && random.nextInt(6) == 0 ? 11 + random.nextInt(3) : 1 + random.nextInt(5);
        for (int line = 0; line < lines; line++) {
            made.line();
        }
        int strays = Math.max(0, random.nextInt(mostStrays + 2) - 2);
        for (int stray = 0; stray < strays; stray++) {
            made.disturb();
        }
        boolean cut = made.text.length() > mostBytes;
        if (cut && mostStrays == 0) {
            return "";
        }
        return cut ? made.text.substring(0, mostBytes) : made.text.toString();
    }

    private void disturb() {
        int at = random.nextInt(text.length() + 1);
        int stop = Math.min(text.length(), at + random.nextInt(4));
        text.replace(at, stop, random.nextInt(3) == 0 ? "" : STRAY[random.nextInt(STRAY.length)]);
    }

    private void say(String word) {
        boolean apart = text.length() > 0 && Character.isLetterOrDigit(text.charAt(text.length() - 1))
            && Character.isLetterOrDigit(word.charAt(0));
        text.append(apart || random.nextInt(4) == 0 ? random.nextInt(9) == 0 ? "\n" : " " : "").append(word);
    }

    private String town() {
        return "t" + random.nextInt(random.nextInt(3) == 0 ? 8 : 3);
    }

    private void line() {
        if (random.nextBoolean()) {
            say("when");
            either(0);
        }
        say("move");
        say(String.valueOf(random.nextInt(random.nextInt(9) == 0 ? 1000000 : 40)));
        say(KINDS[random.nextInt(KINDS.length)]);
        say("from");
        String from = town();
        say(from);
        say("to");
        String to = town();
        int tries = random.nextInt(6);
        for (int again = 0; again < tries && to.equals(from); again++) {
            to = town();
        }
        say(to);
        say(";");
    }

    private boolean more() {
        return terms < mostTerms && random.nextInt(mostTerms > 30 ? 2 : 4) == 0;
    }

    private void either(int within) {
        one(within);
        while (more()) {
            say(random.nextBoolean() ? "and" : "or");
            one(within);
        }
    }

    private void one(int within) {
        int way = within >= mostWithin ? 3 : random.nextInt(mostWithin > 4 ? 3 : 5);
        if (way == 0) {
            say("not");
            one(within + 1);
        } else if (way == 1) {
            say("(");
            either(within + 1);
            say(")");
        } else {
            sum();
            say("<>=".substring(random.nextInt(3)).substring(0, 1));
            sum();
        }
    }

    private void sum() {
        term();
        while (more()) {
            say(random.nextBoolean() ? "+" : "-");
            term();
        }
    }

    private void term() {
        terms++;
        switch (random.nextInt(8)) {
            case 0 -> say("month");
            case 1 -> {
                say("people");
                say(town());
            }
            case 2, 3 -> {
                say(random.nextBoolean() ? "stock" : "old");
                say(town());
                say(KINDS[random.nextInt(KINDS.length)]);
            }
            case 4 -> {
                say("room");
                say(town());
            }
            default -> say(String.valueOf(random.nextInt(random.nextInt(4) == 0 ? 1000000 : 30)));
        }
    }
}
