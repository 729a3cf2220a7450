import java.lang.reflect.Method;
import java.lang.reflect.Modifier;
import java.nio.file.Files;
import java.nio.file.Path;
import java.util.Arrays;
import java.util.regex.Matcher;
import java.util.regex.Pattern;

/** What README.md shows: its example's answers, its text of orders, and that it tells of every call. */
public final class ReadmeTest {
    private static final Check CHECK = new Check("ReadmeTest");
    private static final Pattern SHOWN = Pattern.compile("realm\\.(\\w+)\\(([^)]*)\\); *// (-?\\d+|true|false)\\b");

    public static void main(String[] args) throws Exception {
        String readme = Files.readString(Path.of("README.md"));
        example(block(readme, "java"));
        CHECK.due("the text of orders", Check.order(new StoreRealm(), block(readme, "text")), 2);
        everyCall(readme);
        CHECK.close();
    }

    private static String block(String readme, String language) {
        Matcher found = Pattern.compile("```" + language + "\n(.*?)```", Pattern.DOTALL).matcher(readme);
        CHECK.due("there is a block of " + language, found.find(), true);
        return found.group(1);
    }

    private static void example(String code) throws ReflectiveOperationException {
        StoreRealm realm = new StoreRealm();
        Matcher shown = SHOWN.matcher(code);
        int calls = 0;
        while (shown.find()) {
            String told = shown.group(2).replace("StoreRealm.NONE", "-1");
            Object[] given = Arrays.stream(told.split(", *")).filter(one -> !one.isEmpty()).map(Integer::valueOf).toArray();
            Object answer = method(shown.group(1)).invoke(realm, given);
            CHECK.due(shown.group() + " answers " + answer, shown.group(3).equals(String.valueOf(answer)), true);
            calls++;
        }
        CHECK.due("every call of the example is shown with its answer", calls, code.split("realm\\.", -1).length - 1);
    }

    private static Method method(String name) {
        return Arrays.stream(StoreRealm.class.getMethods()).filter(one -> one.getName().equals(name)).findFirst().orElseThrow();
    }

    private static void everyCall(String readme) {
        for (Method method : StoreRealm.class.getDeclaredMethods()) {
            Matcher row = Pattern.compile("\n\\| `" + method.getName() + "\\(([^)]*)\\)`").matcher(readme);
            boolean told = row.find();
            int names = told && !row.group(1).isEmpty() ? row.group(1).split(", ").length : 0;
            if (Modifier.isPublic(method.getModifiers())) {
                CHECK.due(method + " has a row", told, true);
                CHECK.due(method + " has all its arguments there", names, method.getParameterCount());
            }
        }
    }
}
