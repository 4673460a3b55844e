import java.io.IOException;
import java.lang.reflect.Method;
import java.nio.file.Files;
import java.nio.file.Path;
import java.util.regex.Matcher;
import java.util.regex.Pattern;

/** README.md shows calls and their answers: each is called, in its order, and must answer so. */
public final class ReadmeTest {
    private static final Pattern CALL = Pattern.compile("canal\\.(\\w+)\\((.*)\\); *// (-?\\w+)\\b.*");

    private ReadmeTest() {
    }

    public static void main(String[] args) throws IOException {
        String readme = Files.readString(Path.of("README.md"));
        Checks c = new Checks();
        c.sentence("README.md: the calls that it shows.", checks -> runCalls(checks, readme));
        c.end();
    }

    private static void runCalls(Checks c, String readme) {
        TributeFleet canal = new TributeFleet(3);
        c.due("a canal of 3 reaches", readme.contains("TributeFleet canal = new TributeFleet(3);"), true);
        for (String line : readme.split("\n")) {
            Matcher call = CALL.matcher(line);
            boolean shown = line.startsWith("canal.");
            c.due("read: " + line, call.matches(), shown);
            if (shown && call.matches()) {
                c.due(line, answer(canal, call.group(1), call.group(2)), number(call.group(3)));
            }
        }
    }

    private static long answer(TributeFleet canal, String name, String arguments) {
        for (Method each : TributeFleet.class.getMethods()) {
            if (each.getName().equals(name)) {
                return call(each, canal, arguments.isEmpty() ? new String[0] : arguments.split(", "));
            }
        }
        throw new IllegalArgumentException("no method " + name);
    }

    private static long call(Method method, TributeFleet canal, String[] arguments) {
        Object[] values = new Object[arguments.length];
        for (int i = 0; i < values.length; i++) {
            boolean isNumber = method.getParameterTypes()[i] == int.class;
            values[i] = isNumber ? (Object) number(arguments[i]) : (Object) arguments[i].equals("true");
        }
        try {
            Object answer = method.invoke(canal, values);
            return answer instanceof Boolean is ? (is ? 1 : 0) : ((Integer) answer).longValue();
        } catch (ReflectiveOperationException problem) {
            throw new IllegalArgumentException(method + " can't be called", problem);
        }
    }

    private static int number(String word) {
        switch (word) {
            case "true":
                return 1;
            case "false":
                return 0;
            case "NONE":
            case "TributeFleet.NONE":
                return TributeFleet.NONE;
            default:
                return word.startsWith("0b") ? Integer.parseInt(word.substring(2), 2) : Integer.decode(word);
        }
    }
}
