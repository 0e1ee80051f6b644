import java.io.IOException;
import java.lang.reflect.InvocationTargetException;
import java.lang.reflect.Method;
import java.lang.reflect.Modifier;
import java.nio.file.Files;
import java.nio.file.Path;
import java.util.ArrayList;
import java.util.HashMap;
import java.util.List;
import java.util.Map;
import java.util.regex.Matcher;
import java.util.regex.Pattern;

/** README.md tells of each call of the face, with its exceptions in their order, and its example answers as it says. */
public final class ReadmeTest extends Checks {

    private static final Pattern ROW = Pattern.compile("\\| `(\\w+)\\(([^)]*)\\)` \\|([^|]*)\\|([^|]*)\\|([^|]*)\\|");
    private static final Pattern EXCEPTION = Pattern.compile("`(\\w+Exception)`");
    private static final Pattern PLAYED = Pattern.compile("    (?:int (\\w+) = )?desk\\.(.*);\\s*// (throws )?(.*)");
    private static final Pattern CALL = Pattern.compile("(\\w+)\\((.*)\\)");

    private static final Map<String, Method> FACE = new HashMap<>();
    private static final Map<String, Integer> TERMS = new HashMap<>();
    private static final Matchmakingdesk DESK = new Matchmakingdesk();

    public static void main(String[] args) throws IOException, IllegalAccessException {
        for (Method method : Matchmakingdesk.class.getDeclaredMethods()) {
            if (Modifier.isPublic(method.getModifiers())) {
                FACE.put(method.getName(), method);
            }
        }
        List<String> lines = Files.readAllLines(Path.of("README.md"));
        eachCallIsTold(lines);
        exampleAnswersSo(lines);
        end("the readme tells what is so");
    }

    private static void eachCallIsTold(List<String> lines) {
        List<String> told = new ArrayList<>();
        for (String line : lines) {
            Matcher row = ROW.matcher(line);
            if (row.matches()) {
                told.add(row.group(1));
                about("README.md, " + row.group(1));
                rowIsSo(FACE.get(row.group(1)), row.group(2), row.group(4), row.group(5));
            }
        }
        about("README.md, the calls told");
        due(told.size(), FACE.size());
        due(FACE.keySet().containsAll(told) && told.containsAll(FACE.keySet()), true);
    }

    private static void rowIsSo(Method method, String parameters, String answers, String exceptions) {
        due(parameters.isEmpty() ? 0 : parameters.split(", ").length, method.getParameterCount());
        due(answers.isBlank(), false);
        List<String> told = new ArrayList<>();
        Matcher each = EXCEPTION.matcher(exceptions);
        while (each.find()) {
            told.add(each.group(1));
        }
        List<String> declared = new ArrayList<>();
        for (Class<?> type : method.getExceptionTypes()) {
            declared.add(type.getSimpleName());
        }
        due(told, declared);
    }

    private static void exampleAnswersSo(List<String> lines) throws IllegalAccessException {
        int played = 0;
        for (String line : lines) {
            Matcher each = PLAYED.matcher(line);
            if (!each.matches()) {
                continue;
            }
            played++;
            about("README.md, " + line.trim());
            Object answer = answerOf(each.group(2));
            due(answer instanceof String ? "\"" + answer + "\"" : answer instanceof Class<?> thrown
                    ? thrown.getSimpleName() : String.valueOf(answer), each.group(4));
            due(answer instanceof Class<?>, each.group(3) != null);
            if (each.group(1) != null) {
                TERMS.put(each.group(1), (Integer) answer);
            }
        }
        about("README.md, the example");
        due(played > 40, true);
    }

    /** What a call, a number, a truth or a term's name in the example stands for; the class of what a call throws. */
    private static Object answerOf(String written) throws IllegalAccessException {
        String what = written.startsWith("desk.") ? written.substring(5) : written;
        Matcher call = CALL.matcher(what);
        if (!call.matches()) {
            return what.equals("true") || what.equals("false") ? (Object) what.equals("true")
                    : TERMS.containsKey(what) ? TERMS.get(what) : (Object) Integer.parseInt(what);
        }
        List<Object> arguments = new ArrayList<>();
        for (String argument : call.group(2).isEmpty() ? new String[0] : call.group(2).split(", (?![^(]*\\))")) {
            arguments.add(answerOf(argument));
        }
        try {
            return FACE.get(call.group(1)).invoke(DESK, arguments.toArray());
        } catch (InvocationTargetException e) {
            return e.getCause().getClass();
        }
    }
}
