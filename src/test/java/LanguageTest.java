import java.io.IOException;
import java.lang.reflect.Constructor;
import java.lang.reflect.Field;
import java.lang.reflect.Method;
import java.lang.reflect.Modifier;
import java.nio.file.Files;
import java.nio.file.Path;
import java.util.ArrayList;
import java.util.List;
import java.util.TreeSet;
import java.util.regex.Matcher;
import java.util.regex.Pattern;

/** The face of the class, and what of LANGUAGE.md can be seen in its text. */
public final class LanguageTest {
    private static final Path SOURCE = Path.of("src/main/java/SeizedGoods.java");
    private static final Path DOCUMENT = Path.of("../shared/DOC.md");
    private static final int MOST_LINES = 60, MOST_PARAMETERS = 7, MOST_CLASSES = 12, MOST_FIELDS = 20;

    public static void main(String[] args) throws IOException {
        face();
        classes();
        words();
        methodLengths();
        madeInConstructors();
        Check.end();
    }

    private static void face() throws IOException {
        Class<?> type = SeizedGoods.class;
        Check.dueTrue("public and final", type.getModifiers() == (Modifier.PUBLIC | Modifier.FINAL));
        Check.due("NONE", SeizedGoods.NONE, -1000000);
        Check.due("BAD", SeizedGoods.BAD, -1000001);
        Check.due("STATE", SeizedGoods.STATE, -1000002);
        Check.due("FULL", SeizedGoods.FULL, -1000003);
        TreeSet<String> open = new TreeSet<>();
        for (Field field : type.getDeclaredFields()) {
            if (!Modifier.isPrivate(field.getModifiers())) {
                open.add(field.getName());
            }
        }
        Check.dueTrue("constants " + open, open.equals(new TreeSet<>(List.of("NONE", "BAD", "STATE", "FULL"))));
        Constructor<?>[] made = type.getDeclaredConstructors();
        Check.dueTrue("constructor", made.length == 1 && Modifier.isPublic(made[0].getModifiers())
            && made[0].getParameterCount() == 0);
        TreeSet<String> methods = new TreeSet<>();
        for (Method method : type.getDeclaredMethods()) {
            if (!Modifier.isPrivate(method.getModifiers())) {
                methods.add(told(method));
            }
        }
        TreeSet<String> due = new TreeSet<>();
        Matcher line = Pattern.compile("    public int (\\w+)\\((.*)\\);").matcher(Files.readString(DOCUMENT));
        while (line.find()) {
            due.add(line.group(1) + " " + line.group(2).replaceAll(" \\w+(,|$)", "$1").replace(" ", ""));
        }
        Check.due("how many methods", due.size(), 41);
        Check.dueTrue("methods " + methods + " due " + due, methods.equals(due));
    }

    private static String told(Method method) {
        List<String> types = new ArrayList<>();
        for (Class<?> type : method.getParameterTypes()) {
            types.add(type.getName());
        }
        Check.dueTrue(method.getName() + " answers an int", method.getReturnType() == int.class);
        Check.dueTrue(method.getName() + " is not static", !Modifier.isStatic(method.getModifiers()));
        return method.getName() + " " + String.join(",", types);
    }

    private static void classes() {
        TreeSet<String> faceNames = new TreeSet<>();
        for (Method method : SeizedGoods.class.getDeclaredMethods()) {
            if (Modifier.isPublic(method.getModifiers())) {
                faceNames.add(method.getName());
            }
        }
        List<Class<?>> all = new ArrayList<>(List.of(SeizedGoods.class.getDeclaredClasses()));
        Check.dueTrue("classes: " + all.size(), all.size() + 1 <= MOST_CLASSES);
        for (Class<?> inside : all) {
            Check.dueTrue(inside + " is static", Modifier.isStatic(inside.getModifiers()));
            Check.dueTrue(inside + " is closed", !Modifier.isPublic(inside.getModifiers()));
            for (Method method : inside.getDeclaredMethods()) {
                Check.dueTrue(method + " has a name of its own", !faceNames.contains(method.getName()));
            }
        }
        all.add(SeizedGoods.class);
        for (Class<?> type : all) {
            int fields = 0;
            for (Field field : type.getDeclaredFields()) {
                boolean fixed = Modifier.isStatic(field.getModifiers());
                fields += fixed ? 0 : 1;
                Check.dueTrue(field + " static is final", !fixed || Modifier.isFinal(field.getModifiers()));
            }
            Check.dueTrue(type + " has " + fields + " fields", fields <= MOST_FIELDS);
            for (Method method : type.getDeclaredMethods()) {
                Check.dueTrue(method + " parameters", method.getParameterCount() <= MOST_PARAMETERS);
            }
        }
    }

    private static String bare() throws IOException {
        String text = Files.readString(SOURCE);
        Check.dueTrue("signs are plain", text.chars().allMatch(c -> c == '\n' || c >= 32 && c < 127));
        return text.replaceAll("(?s)/\\*.*?\\*/", "").replaceAll("//[^\n]*", "");
    }

    private static void words() throws IOException {
        String text = bare();
        for (String word : new String[] {"throw", "throws", "try", "catch", "finally", "synchronized", "assert", "instanceof",
            "package", "equals", "hashCode", "toString", "Exact", "Random", "Thread", "lambda", "record", "sealed", "volatile",
            "Exception", "native", "protected"}) {
            Check.dueTrue("no " + word, !Pattern.compile("\\b" + word + "\\b").matcher(text).find());
        }
        Check.dueTrue("no lambda", !text.contains("->"));
        Check.dueTrue("no method reference", !text.contains("::"));
        Matcher imported = Pattern.compile("import ([^;]+);").matcher(text);
        while (imported.find()) {
            Check.dueTrue("import " + imported.group(1), imported.group(1).equals("java.util.Arrays"));
        }
        Matcher library = Pattern.compile("\\b(System|Arrays|Math|Integer|Long)\\.(\\w+)").matcher(text);
        List<String> lawful = List.of("System.arraycopy", "Arrays.fill", "Math.max", "Math.min", "Integer.bitCount",
            "Integer.compare");
        while (library.find()) {
            Check.dueTrue("library " + library.group(), lawful.contains(library.group()));
        }
    }

    private static void methodLengths() throws IOException {
        int depth = 0;
        int from = -1;
        int nested = 0;
        String[] lines = Files.readString(SOURCE).split("\n");
        for (int k = 0; k < lines.length; k++) {
            String line = lines[k];
            boolean opensMethod = line.matches("\\s+[\\w\\[\\] ]+\\(.*\\) \\{") && !line.matches("\\s+(if|for|while|switch|else)\\b.*");
            if (opensMethod && from < 0) {
                from = k;
                nested = depth;
            }
            for (char c : line.toCharArray()) {
                depth += c == '{' ? 1 : c == '}' ? -1 : 0;
            }
            if (from >= 0 && depth == nested) {
                Check.dueTrue("lines of " + lines[from].trim(), k - from + 1 <= MOST_LINES);
                from = -1;
            }
        }
        Check.due("braces match", depth, 0);
    }

    /** Calls make nothing: what is new stands in a field's own line or in a constructor. */
    private static void madeInConstructors() throws IOException {
        int made = 0;
        boolean inConstructor = false;
        for (String line : bare().split("\n")) {
            if (line.matches("\\s+[\\w\\[\\] ]+\\(.*\\) \\{") && !line.matches("\\s+(if|for|while|switch|else)\\b.*")) {
                inConstructor = line.matches("\\s+(public )?[A-Z]\\w*\\(.*");
            }
            if (line.matches(".*\\bnew\\b.*")) {
                made++;
                boolean isField = line.matches("\\s+(private )?final [\\w\\[\\]]+ \\w+ = new .*;");
                Check.dueTrue("made outside a constructor: " + line.trim(), inConstructor || isField);
            }
        }
        Check.dueTrue("something is made", made > 0);
    }
}
