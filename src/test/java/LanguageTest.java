import java.lang.reflect.Constructor;
import java.lang.reflect.Field;
import java.lang.reflect.Method;
import java.lang.reflect.Modifier;
import java.nio.file.Files;
import java.nio.file.Path;
import java.util.Set;
import java.util.TreeSet;
import java.util.regex.Matcher;
import java.util.regex.Pattern;

/** The public face, and those rules of LANGUAGE.md that can be seen in the class or its text. */
public final class LanguageTest {
    private static final Check CHECK = new Check("LanguageTest");
    private static final String[] FACE = {"int town(int,int,int)", "boolean way(int,int,int)", "boolean keeps(int,int)",
        "int put(int,int,int,int)", "int take(int,int,int)", "int stock(int,int,int)", "int feed(int,int,int,int,int)",
        "int end(int)", "int orders()", "int fault(int)", "int months(int)", "int sum(int)", "int feast(int,int,int,int)",
        "boolean cancel()", "int fed()", "int carried()", "int call(int)", "int gave(int)", "int tell(int,int,int,int,int)",
        "boolean untell(int)", "int count(int,int,int,int)", "int agree(int,int,int,int)", "int of(int,int)", "int about(int)"};

    public static void main(String[] args) throws Exception {
        face();
        classesInside();
        String source = Files.readString(Path.of("src/main/java/StoreRealm.java"));
        text(source);
        lengths(source);
        CHECK.close();
    }

    private static void face() {
        Set<String> due = new TreeSet<>(Set.of(FACE));
        Set<String> seen = new TreeSet<>();
        Set<String> names = new TreeSet<>();
        for (Method method : StoreRealm.class.getDeclaredMethods()) {
            if (!Modifier.isPrivate(method.getModifiers())) {
                StringBuilder told = new StringBuilder(method.getReturnType() + " " + method.getName() + "(");
                for (Class<?> type : method.getParameterTypes()) {
                    told.append(told.charAt(told.length() - 1) == '(' ? "" : ",").append(type);
                }
                seen.add(told.append(")").toString());
                names.add(method.getName());
                CHECK.due(told + " is public", Modifier.isPublic(method.getModifiers()), true);
            }
        }
        CHECK.due("the face " + seen, seen.equals(due), true);
        for (Class<?> inside : StoreRealm.class.getDeclaredClasses()) {
            for (Method method : inside.getDeclaredMethods()) {
                CHECK.due(method + " has a name of its own", names.contains(method.getName()), false);
            }
        }
        for (Method method : StoreRealm.class.getDeclaredMethods()) {
            boolean clash = Modifier.isPrivate(method.getModifiers()) && names.contains(method.getName());
            CHECK.due(method + " has a name of its own", clash, false);
        }
        for (Field field : StoreRealm.class.getDeclaredFields()) {
            boolean face = field.getName().equals("NONE");
            CHECK.due(field + " is seen", Modifier.isPublic(field.getModifiers()), face);
            CHECK.due(field + " is hidden", Modifier.isPrivate(field.getModifiers()), !face);
        }
        Constructor<?>[] constructors = StoreRealm.class.getDeclaredConstructors();
        CHECK.due("constructors", constructors.length, 1);
        CHECK.due("the constructor is public", Modifier.isPublic(constructors[0].getModifiers()), true);
        CHECK.due("the class is final", Modifier.isFinal(StoreRealm.class.getModifiers()), true);
        CHECK.due("NONE", StoreRealm.NONE, -1);
    }

    private static void classesInside() {
        Class<?>[] inside = StoreRealm.class.getDeclaredClasses();
        CHECK.due("twelve classes at most", inside.length < 12, true);
        for (Class<?> one : inside) {
            CHECK.due(one + " is static", Modifier.isStatic(one.getModifiers()), true);
            CHECK.due(one + " is not public", Modifier.isPublic(one.getModifiers()), false);
            int fields = 0;
            for (Field field : one.getDeclaredFields()) {
                boolean constant = Modifier.isStatic(field.getModifiers());
                fields += constant ? 0 : 1;
                CHECK.due(field + " is final", !constant || Modifier.isFinal(field.getModifiers()), true);
            }
            CHECK.due(one + " has at most twenty fields", fields <= 20, true);
            for (Method method : one.getDeclaredMethods()) {
                CHECK.due(method + " takes at most seven", method.getParameterCount() <= 7, true);
            }
        }
    }

    /** A method of the class begins and ends 4 blanks in, one of a class inside it 8. */
    private static void lengths(String source) {
        String name = "";
        int length = 0;
        for (String line : source.split("\n")) {
            boolean begins = line.matches(" {4}(?: {4})?[A-Za-z][^=;]*\\) \\{");
            name = begins ? line.strip() : name;
            length = begins ? 0 : length + 1;
            if (line.matches(" {4}(?: {4})?\\}") && !name.isEmpty()) {
                CHECK.due(name + " has at most sixty lines", length <= 60, true);
                name = "";
            }
        }
    }

    private static void text(String source) {
        String code = source.replaceAll("(?s)/\\*.*?\\*/", "").replaceAll("//[^\n]*", "").replaceAll("\"[^\"\n]*\"", "\"\"");
        String[] forbidden = {"throw", "throws", "try", "catch", "finally", "synchronized", "assert", "protected", "->", "::",
            "System", "Exact", "Object", "Random", "Thread", "package", "null", "static \\{"};
        for (String word : forbidden) {
            boolean plain = Character.isLetter(word.charAt(0)) && !word.equals("Exact");
            Matcher found = Pattern.compile(plain ? "\\b" + word : word).matcher(code);
            CHECK.due("the text has " + word, found.find(), false);
        }
        Matcher imports = Pattern.compile("import ([^;]*);").matcher(code);
        while (imports.find()) {
            CHECK.due("import of " + imports.group(1), imports.group(1).equals("java.util.Arrays"), true);
        }
        // Rows are made with the object, so that 512 calls make none.
        for (String line : code.split("\n")) {
            boolean made = !line.contains("new ") || line.matches(" {4,8}(private |final |Orders ruling ).*= new .*;")
                || line.strip().equals("towns[town] = new Town();");
            CHECK.due("made with the object: " + line.strip(), made, true);
        }
    }
}
