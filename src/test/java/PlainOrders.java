import java.util.ArrayDeque;
import java.util.ArrayList;
import java.util.Deque;
import java.util.List;
import java.util.Map;
import java.util.Set;
import java.util.regex.Matcher;
import java.util.regex.Pattern;

/**
 * A text of orders, read a second time by other means than the class has: tokens are patterns, what
 * can stand next is a row of states, and a condition is rewritten until one letter is left of it.
 */
final class PlainOrders {
    record Line(List<String> condition, int measures, String kind, String from, String to) {
    }

    private record Token(String text, int place) {
    }

    private static final Pattern BLANKS = Pattern.compile("[ \n]+");
    private static final Pattern[] TOKENS = {Pattern.compile("t[0-7](?![a-z0-9])"), Pattern.compile("[a-z]{1,8}(?![a-z])"),
        Pattern.compile("[0-9]{1,6}(?![0-9a-z])"), Pattern.compile("[;()<>=+-]")};
    private static final Set<String> KINDS = Set.of("maize", "cloth", "meat");
    private static final Set<String> TERMS = Set.of("month", "people", "stock", "old", "room");
    /** What is due behind what was due before it. */
    private static final Map<String, String> BEHIND_MOVE =
        Map.of("N", "KIND", "KIND", "from", "from", "T1", "T1", "to", "to", "T2", "T2", ";");

    final List<Line> lines = new ArrayList<>();
    int fault;
    int place = -1;

    private final Deque<String> around = new ArrayDeque<>();
    private final List<Token> line = new ArrayList<>();
    private String state = "line";
    private boolean right;
    private int terms;

    PlainOrders(String text) {
        int at = 0;
        while (fault == 0) {
            Matcher blanks = BLANKS.matcher(text).region(at, text.length());
            at = blanks.lookingAt() ? blanks.end() : at;
            if (at == text.length()) {
                fail(state.equals("line") ? 0 : 2, at);
                return;
            }
            String token = tokenAt(text, at);
            if (token.isEmpty()) {
                fail(1, at);
            } else {
                line.add(new Token(token, at));
                fail(stand(token), at);
                at += token.length();
            }
        }
    }

    private void fail(int which, int where) {
        if (which != 0) {
            fault = which;
            place = where;
            lines.clear();
        }
    }

    private static String tokenAt(String text, int at) {
        for (Pattern pattern : TOKENS) {
            Matcher found = pattern.matcher(text).region(at, text.length()).useTransparentBounds(true);
            if (found.lookingAt()) {
                return found.group();
            }
        }
        return "";
    }

    /** Answers the fault of a token that comes in this state, or 0, and goes on to the next state. */
    private int stand(String token) {
        switch (state) {
            case "line":
                if (lines.size() == 12 || !token.equals("when") && !token.equals("move")) {
                    return 2;
                }
                state = token.equals("when") ? "one" : "N";
                return 0;
            case "one":
                return standAsOne(token);
            case "term":
                return standAsTerm(token);
            case "town":
            case "town and kind":
                if (!isTown(token)) {
                    return 2;
                }
                state = state.equals("town") ? "behind term" : "kind";
                return 0;
            case "kind":
                state = "behind term";
                return KINDS.contains(token) ? 0 : 2;
            case "behind term":
                return standBehindTerm(token);
            case "behind one":
                return standBehindOne(token);
            default:
                return standBehindMove(token);
        }
    }

    private int standAsOne(String token) {
        if (around.size() == 8) {
            return 2;
        }
        if (token.equals("not") || token.equals("(")) {
            around.push(token);
            return 0;
        }
        right = false;
        return standAsTerm(token);
    }

    private int standAsTerm(String token) {
        if (!isNumber(token) && !TERMS.contains(token) || terms == 80) {
            return 2;
        }
        terms++;
        state = "behind term";
        if (token.equals("people") || token.equals("room")) {
            state = "town";
        } else if (token.equals("stock") || token.equals("old")) {
            state = "town and kind";
        }
        return 0;
    }

    private int standBehindTerm(String token) {
        if (token.equals("+") || token.equals("-")) {
            state = "term";
            return 0;
        }
        if (right) {
            return standBehindOne(token);
        }
        right = true;
        state = "term";
        return token.equals("<") || token.equals(">") || token.equals("=") ? 0 : 2;
    }

    private int standBehindOne(String token) {
        leaveNots();
        if (token.equals("and") || token.equals("or")) {
            state = "one";
            return 0;
        }
        if (token.equals(")") && !around.isEmpty()) {
            around.pop();
            leaveNots();
            state = "behind one";
            return 0;
        }
        state = "N";
        return token.equals("move") && around.isEmpty() ? 0 : 2;
    }

    private void leaveNots() {
        while (!around.isEmpty() && around.peek().equals("not")) {
            around.pop();
        }
    }

    private int standBehindMove(String token) {
        if (state.equals(";")) {
            addLine();
            state = "line";
            return token.equals(";") ? 0 : 2;
        }
        boolean good = switch (state) {
            case "N" -> isNumber(token);
            case "KIND" -> KINDS.contains(token);
            case "T1", "T2" -> isTown(token);
            default -> token.equals(state);
        };
        boolean second = state.equals("T2");
        state = BEHIND_MOVE.get(state);
        if (good && second && token.equals(told(3))) {
            return 3;
        }
        return good ? 0 : 2;
    }

    /** The token that stands so many before the last. */
    private String told(int before) {
        return line.get(line.size() - before).text;
    }

    private void addLine() {
        List<String> condition = new ArrayList<>();
        for (Token token : line.subList(0, line.size() - 8)) {
            condition.add(token.text);
        }
        lines.add(new Line(condition, Integer.parseInt(told(7)), told(6), told(4), told(2)));
        line.clear();
    }

    private static boolean isTown(String token) {
        return token.matches("t[0-7]");
    }

    private static boolean isNumber(String token) {
        return token.matches("[0-9]+");
    }

    /** What a term of one or more words is. */
    interface Terms {
        int value(String what, String town, String kind);
    }

    static boolean holds(Line line, Terms terms) {
        if (line.condition.isEmpty()) {
            return true;
        }
        List<String> words = line.condition.subList(1, line.condition.size());
        StringBuilder told = new StringBuilder(" ");
        for (int at = 0; at < words.size(); at++) {
            String word = words.get(at);
            if (word.equals("month")) {
                told.append(terms.value(word, "", ""));
            } else if (word.equals("people") || word.equals("room")) {
                told.append(terms.value(word, words.get(at + 1), ""));
                at++;
            } else if (word.equals("stock") || word.equals("old")) {
                told.append(terms.value(word, words.get(at + 1), words.get(at + 2)));
                at += 2;
            } else {
                told.append(word);
            }
            told.append(" ");
        }
        return rewrite(told.toString()).equals(" Y ");
    }

    /** Sums first, then comparisons; then brackets and 'not', 'and', and 'or' last. */
    private static String rewrite(String told) {
        String before = "";
        String text = told;
        while (!text.equals(before)) {
            before = text;
            text = first(text, "(?<![+-]) (-?\\d+) ([+-]) (\\d+) ", PlainOrders::sum);
        }
        text = every(text, " (-?\\d+) ([<>=]) (-?\\d+) ", PlainOrders::comparison);
        before = "";
        while (!text.equals(before)) {
            before = text;
            text = text.replace(" ( Y ) ", " Y ").replace(" ( N ) ", " N ");
            text = text.replace(" not Y ", " n ").replace(" not N ", " Y ").replace(" n ", " N ");
            if (text.equals(before)) {
                text = first(text, "(?<! not) ([YN]) (and) ([YN]) ", PlainOrders::joined);
            }
            if (text.equals(before)) {
                text = first(text, "(?<! not)(?<! and) ([YN]) (or) ([YN]) (?!and )", PlainOrders::joined);
            }
        }
        return text;
    }

    private interface Rewriting {
        String of(Matcher found);
    }

    private static String first(String text, String pattern, Rewriting rewriting) {
        Matcher found = Pattern.compile(pattern).matcher(text);
        if (!found.find()) {
            return text;
        }
        return text.substring(0, found.start()) + " " + rewriting.of(found) + " " + text.substring(found.end());
    }

    private static String every(String text, String pattern, Rewriting rewriting) {
        String before = "";
        String now = text;
        while (!now.equals(before)) {
            before = now;
            now = first(now, pattern, rewriting);
        }
        return now;
    }

    private static String sum(Matcher found) {
        int left = Integer.parseInt(found.group(1));
        int second = Integer.parseInt(found.group(3));
        return String.valueOf(found.group(2).equals("+") ? left + second : left - second);
    }

    private static String comparison(Matcher found) {
        int left = Integer.parseInt(found.group(1));
        int second = Integer.parseInt(found.group(3));
        return switch (found.group(2)) {
            case "<" -> left < second ? "Y" : "N";
            case ">" -> left > second ? "Y" : "N";
            default -> left == second ? "Y" : "N";
        };
    }

    private static String joined(Matcher found) {
        boolean both = found.group(1).equals("Y") && found.group(3).equals("Y");
        boolean any = found.group(1).equals("Y") || found.group(3).equals("Y");
        return (found.group(2).equals("and") ? both : any) ? "Y" : "N";
    }
}
