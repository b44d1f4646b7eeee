import java.io.IOException;
import java.lang.reflect.Method;
import java.lang.reflect.Modifier;
import java.nio.charset.StandardCharsets;
import java.nio.file.Files;
import java.nio.file.Path;
import java.util.regex.Matcher;
import java.util.regex.Pattern;

/** README.md tells the truth: its examples answer what stands behind them, its table has every call. */
public final class ReadmeTests {
    private static final Path PAGE = Path.of("README.md");

    private static int wrong = 0;

    private static void must(boolean holds, String what) {
        if (!holds) {
            wrong++;
            System.out.println(what);
        }
    }

    private static void due(String call, long got, long want) {
        must(got == want, call + " answered " + got + ", README.md says " + want);
    }

    private static void tell(StileWantsCompliment x, String text) {
        for (char c : text.toCharArray()) {
            x.letter(c);
        }
    }

    private static Method named(String name) {
        for (Method method : StileWantsCompliment.class.getMethods()) {
            if (method.getName().equals(name)) {
                return method;
            }
        }
        throw new IllegalStateException("README.md calls " + name + ", and there is no such method");
    }

    private static Object[] numbers(String numbers) {
        String[] told = numbers.isEmpty() ? new String[0] : numbers.split(", ");
        Object[] all = new Object[told.length];
        for (int i = 0; i < told.length; i++) {
            all[i] = Integer.valueOf(told[i]);
        }
        return all;
    }

    private static int callsOfTheExample(String page) throws ReflectiveOperationException {
        StileWantsCompliment x = new StileWantsCompliment();
        Matcher text = Pattern.compile("for \\(char c : \"(.*?)\"").matcher(page);
        must(text.find(), "no county in the example");
        tell(x, text.group(1));
        Matcher call = Pattern.compile("(?m)^x\\.(\\w+)\\(([-\\d, ]*)\\); +// (-?\\d+)").matcher(page);
        int calls = 0;
        while (call.find()) {
            Object got = named(call.group(1)).invoke(x, numbers(call.group(2)));
            due(call.group(), ((Number) got).longValue(), Long.parseLong(call.group(3)));
            calls++;
        }
        return calls;
    }

    /** The statements of the table, told one behind the other, are a county. */
    private static int statementsOfTheTable(String page) {
        StileWantsCompliment x = new StileWantsCompliment();
        Matcher row = Pattern.compile("(?m)^\\| `([swckfd])` .*?\\| `(\\w+;)` \\|").matcher(page);
        int statements = 0;
        while (row.find()) {
            must(row.group(2).startsWith(row.group(1)), "not of its row: " + row.group());
            tell(x, row.group(2));
            statements++;
        }
        due("county() of the table's statements", x.county(), statements);
        return statements;
    }

    private static void everyCallIsTold(String page) {
        int told = 0;
        Matcher row = Pattern.compile("(?m)^\\| `(\\w+)\\(([\\w, ]*)\\)` \\|").matcher(page);
        while (row.find()) {
            int has = row.group(2).isEmpty() ? 0 : row.group(2).split(", ").length;
            due("parameters of " + row.group(1), named(row.group(1)).getParameterCount(), has);
            told++;
        }
        int calls = 0;
        for (Method method : StileWantsCompliment.class.getDeclaredMethods()) {
            if (Modifier.isPublic(method.getModifiers())) {
                calls++;
                must(page.contains("\n| `" + method.getName() + "("), "README.md has no " + method.getName());
            }
        }
        due("how many calls there are", calls, told);
    }

    public static void main(String[] args) throws IOException, ReflectiveOperationException {
        String page = Files.readString(PAGE, StandardCharsets.UTF_8);
        due("calls of the example", callsOfTheExample(page), 9);
        due("statements of the table", statementsOfTheTable(page), 6);
        everyCallIsTold(page);
        System.out.println(wrong == 0 ? "README.md holds" : wrong + " places of README.md do not hold");
        if (wrong != 0) {
            System.exit(1);
        }
    }
}
