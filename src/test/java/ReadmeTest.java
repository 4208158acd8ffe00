import java.io.IOException;
import java.lang.reflect.InvocationTargetException;
import java.lang.reflect.Method;
import java.nio.file.Files;
import java.nio.file.Path;
import java.util.regex.Matcher;
import java.util.regex.Pattern;

/** The calls that README.md shows, made as they stand there. */
public final class ReadmeTest {
    private static final Pattern TOLD = Pattern.compile("tell\\(goods, \"([^\"]*)\"\\);");
    private static final Pattern CALL = Pattern.compile("goods\\.(\\w+)\\((.*)\\); +// (-?\\d+):.*");

    public static void main(String[] args) throws IOException, IllegalAccessException, InvocationTargetException {
        SeizedGoods goods = new SeizedGoods();
        int calls = 0;
        for (String line : Files.readAllLines(Path.of("README.md"))) {
            Matcher told = TOLD.matcher(line);
            if (told.matches()) {
                Check.feed(goods, told.group(1));
            }
            Matcher call = CALL.matcher(line);
            if (call.matches()) {
                calls++;
                Check.due(line, answer(goods, call.group(1), call.group(2)), Integer.parseInt(call.group(3)));
            } else {
                Check.dueTrue("a call without its answer: " + line, !line.startsWith("goods."));
            }
        }
        Check.dueTrue(calls + " calls are shown", calls >= 20);
        Check.end();
    }

    private static int answer(SeizedGoods goods, String name, String told)
            throws IllegalAccessException, InvocationTargetException {
        String[] numbers = told.isEmpty() ? new String[0] : told.split(", ");
        Object[] given = new Object[numbers.length];
        for (int k = 0; k < numbers.length; k++) {
            given[k] = Integer.valueOf(numbers[k]);
        }
        for (Method method : SeizedGoods.class.getMethods()) {
            if (method.getName().equals(name)) {
                return (Integer) method.invoke(goods, given);
            }
        }
        return Check.BAD;
    }
}
