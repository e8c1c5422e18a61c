import java.io.IOException;
import java.lang.reflect.InvocationTargetException;
import java.lang.reflect.Method;
import java.lang.reflect.Modifier;
import java.nio.file.Files;
import java.nio.file.Path;
import java.util.ArrayList;
import java.util.Arrays;
import java.util.List;
import java.util.regex.Matcher;
import java.util.regex.Pattern;

/** What README.md says of the calls holds; its argument is the project's folder. */
public final class ReadmeTest {
    private static final Pattern CALL = Pattern.compile("x\\.(\\w+)\\(([^)]*)\\); +// (-?\\w+)(:.*)?");
    private static final Pattern REFUSED = Pattern.compile("- `(-1|-2|false)`(?: \\(`NONE`\\))?: (.*)");
    private static final Pattern NAME = Pattern.compile("`(\\w+)`");

    private ReadmeTest() {
    }

    public static void main(String[] args) throws IOException, IllegalAccessException {
        Check.at("README.md");
        String page = Files.readString(Path.of(args.length == 0 ? "." : args[0], "README.md"));
        examples(page);
        named(page);
        refused(page);
        Check.due("it tells of 512 calls", page.contains("at most 512 calls"), true);
        Check.close();
    }

    private static void examples(String page) throws IllegalAccessException {
        LongCarrier x = null;
        int calls = 0;
        for (String line : page.split("\n")) {
            if (line.equals("LongCarrier x = new LongCarrier();")) {
                x = new LongCarrier();
            }
            Matcher call = CALL.matcher(line);
            if (line.startsWith("x.")) {
                Check.due(line + " can be read", call.matches() && x != null, true);
                Check.due(line, answer(x, call.group(1), arguments(call.group(2))), number(call.group(3)));
                calls++;
            }
        }
        Check.due("there are examples", calls > 20, true);
    }

    private static void named(String page) {
        for (Method method : LongCarrier.class.getDeclaredMethods()) {
            if (Modifier.isPublic(method.getModifiers())) {
                Check.due("it names " + method.getName(), page.contains("`" + method.getName() + "`"), true);
            }
        }
    }

    private static void refused(String page) throws IllegalAccessException {
        int lists = 0;
        for (String line : page.split("\n")) {
            Matcher list = REFUSED.matcher(line);
            if (list.matches()) {
                lists++;
                Matcher name = NAME.matcher(list.group(2));
                while (name.find()) {
                    long[] wrong = new long[7];
                    Arrays.fill(wrong, Integer.MIN_VALUE);
                    Check.due(name.group(1) + " of wrong arguments", answer(new LongCarrier(), name.group(1), wrong),
                        number(list.group(1)));
                }
            }
        }
        Check.due("lists of what wrong arguments answer", lists, 3);
    }

    private static long[] arguments(String text) {
        List<String> parts = new ArrayList<>(List.of(text.split(", *")));
        parts.removeIf(String::isEmpty);
        return parts.stream().mapToLong(ReadmeTest::number).toArray();
    }

    private static long number(String text) {
        return switch (text) {
            case "true" -> 1;
            case "false" -> 0;
            case "LongCarrier.NONE" -> LongCarrier.NONE;
            default -> Long.decode(text);
        };
    }

    private static long answer(LongCarrier x, String name, long[] given) throws IllegalAccessException {
        for (Method method : LongCarrier.class.getDeclaredMethods()) {
            if (!Modifier.isPublic(method.getModifiers()) || !method.getName().equals(name)) {
                continue;
            }
            Class<?>[] types = method.getParameterTypes();
            Object[] arguments = new Object[types.length];
            for (int i = 0; i < types.length; i++) {
                arguments[i] = types[i] == boolean.class ? (Object) (given[i] > 0) : (Object) (int) given[i];
            }
            try {
                Object got = method.invoke(x, arguments);
                return got instanceof Boolean truth ? (truth ? 1 : 0) : ((Number) got).longValue();
            } catch (InvocationTargetException thrown) {
                Check.due(name + " threw " + thrown.getCause(), 1, 0);
            }
        }
        Check.due("there is a call " + name, false, true);
        return Long.MIN_VALUE;
    }
}
