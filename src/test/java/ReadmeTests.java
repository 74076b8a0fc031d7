import java.io.IOException;
import java.lang.reflect.InvocationTargetException;
import java.lang.reflect.Method;
import java.lang.reflect.Modifier;
import java.lang.reflect.Parameter;
import java.nio.file.Files;
import java.nio.file.Path;
import java.util.ArrayList;
import java.util.LinkedHashMap;
import java.util.List;
import java.util.Map;
import java.util.Set;
import java.util.TreeSet;
import java.util.regex.Matcher;
import java.util.regex.Pattern;

/** README.md tells of each call of the class, and what it tells of answers, arguments and exceptions is so. */
public final class ReadmeTests extends Checks {
    private static final Path README = Path.of("README.md");
    private static final Pattern CALL_ROW = Pattern.compile("\\| `(\\w+)\\((.*?)\\)` \\| (.+) \\| (.+) \\|");
    private static final Pattern ARGUMENT_ROW = Pattern.compile("\\| `(\\w+)` \\| (-?\\d+) to (.+) \\| `(\\w+)` \\|");
    private static final Pattern EXAMPLE =
        Pattern.compile("traps\\.(\\w+)\\((.*)\\);\\s+// (?:throws )?([^:]+)(?:: .*)?");
    private static final String NEW_OBJECT = "ClayTraps traps = new ClayTraps();";
    private static final int GUNS = 3;

    private static final class Argument {
        String name;
        int least;
        int most;
        String exception;
    }

    public static void main(String[] args) throws IOException {
        List<String> lines = Files.readAllLines(README);
        sentence("README: each call has a row, with its parameters and exceptions", () -> calls(lines));
        sentence("README: right arguments, and what a wrong one throws", () -> arguments(lines));
        sentence("README: the answers in its examples", () -> examples(lines));
        sentence("README: how an object is made, for how many calls, and how tests are run", () -> words(lines));
        finish();
    }

    private static List<Method> face() {
        List<Method> face = new ArrayList<>();
        for (Method method : ClayTraps.class.getDeclaredMethods()) {
            if (Modifier.isPublic(method.getModifiers())) {
                face.add(method);
            }
        }
        return face;
    }

    // ---- the rows of calls

    private static void calls(List<String> lines) {
        Map<String, String> told = new LinkedHashMap<>();
        for (String line : lines) {
            Matcher row = CALL_ROW.matcher(line);
            if (row.matches()) {
                due("rows of " + row.group(1), false, () -> told.containsKey(row.group(1)));
                told.put(row.group(1), "(" + row.group(2) + ") throws " + exceptionsIn(row.group(4)));
            }
        }
        for (Method method : face()) {
            String row = told.getOrDefault(method.getName(), "no row");
            due("the row of " + method.getName(), headOf(method), () -> row);
        }
        due("rows", face().size(), told::size);
    }

    private static List<String> exceptionsIn(String words) {
        List<String> exceptions = new ArrayList<>();
        Matcher exception = Pattern.compile("`(\\w+Exception)`").matcher(words);
        while (exception.find()) {
            exceptions.add(exception.group(1));
        }
        return exceptions;
    }

    private static String headOf(Method method) {
        List<String> parameters = new ArrayList<>();
        for (Parameter parameter : method.getParameters()) {
            parameters.add(parameter.getName());
        }
        List<String> exceptions = new ArrayList<>();
        for (Class<?> exception : method.getExceptionTypes()) {
            exceptions.add(exception.getSimpleName());
        }
        return "(" + String.join(", ", parameters) + ") throws " + exceptions;
    }

    // ---- the rows of arguments

    private static void arguments(List<String> lines) {
        Map<String, Argument> told = argumentsIn(lines);
        Set<String> names = new TreeSet<>();
        for (Method method : face()) {
            Parameter[] parameters = method.getParameters();
            for (int place = 0; place < parameters.length; place++) {
                names.add(parameters[place].getName());
                if (told.keySet().containsAll(namesOf(method))) {
                    tryBounds(method, place, told);
                }
            }
        }
        due("names of arguments", names.toString(), () -> new TreeSet<>(told.keySet()).toString());
    }

    private static Map<String, Argument> argumentsIn(List<String> lines) {
        Map<String, Argument> told = new LinkedHashMap<>();
        for (String line : lines) {
            Matcher row = ARGUMENT_ROW.matcher(line);
            if (row.matches()) {
                Argument argument = new Argument();
                argument.name = row.group(1);
                argument.least = Integer.parseInt(row.group(2));
                argument.most = row.group(3).equals("`guns()` - 1") ? GUNS - 1 : Integer.parseInt(row.group(3));
                argument.exception = row.group(4);
                told.put(argument.name, argument);
            }
        }
        return told;
    }

    private static List<String> namesOf(Method method) {
        List<String> names = new ArrayList<>();
        for (Parameter parameter : method.getParameters()) {
            names.add(parameter.getName());
        }
        return names;
    }

    private static void tryBounds(Method method, int place, Map<String, Argument> told) {
        Argument argument = told.get(method.getParameters()[place].getName());
        String call = method.getName() + ", " + argument.name + " ";
        int[] right = {argument.least, argument.most};
        for (int number : right) {
            due(call + number, "an answer", () -> kindOfAnswer(method, place, number, told));
        }
        int[] outside = {argument.least - 1, argument.most + 1, Integer.MIN_VALUE, Integer.MAX_VALUE};
        for (int number : outside) {
            due(call + number, argument.exception, () -> kindOfAnswer(method, place, number, told));
        }
    }

    private static String kindOfAnswer(Method method, int place, int number, Map<String, Argument> told)
        throws Exception {
        Object[] arguments = new Object[method.getParameterCount()];
        for (int i = 0; i < arguments.length; i++) {
            arguments[i] = told.get(method.getParameters()[i].getName()).least;
        }
        arguments[place] = number;
        call(with(20, 1, 20, 1, 20, 1), method, arguments);
        return "an answer";
    }

    private static Object call(ClayTraps x, Method method, Object[] arguments) throws Exception {
        try {
            return method.invoke(x, arguments);
        } catch (InvocationTargetException e) {
            throw (Exception) e.getCause();
        }
    }

    // ---- the examples

    private static void examples(List<String> lines) {
        Set<String> shown = new TreeSet<>();
        ClayTraps x = null;
        for (String line : lines) {
            Matcher example = EXAMPLE.matcher(line);
            if (line.equals(NEW_OBJECT)) {
                x = new ClayTraps();
            } else if (line.startsWith("traps.")) {
                due("a call and its answer in: " + line, true, example::matches);
                if (x != null && example.matches()) {
                    shown.add(example.group(1));
                    runExample(x, line, example);
                }
            }
        }
        Set<String> all = new TreeSet<>();
        for (Method method : face()) {
            all.add(method.getName());
        }
        due("calls that are shown", all.toString(), shown::toString);
    }

    private static void runExample(ClayTraps x, String line, Matcher example) {
        List<Object> arguments = new ArrayList<>();
        for (String number : example.group(2).split(", ")) {
            if (!number.isEmpty()) {
                arguments.add(Integer.parseInt(number));
            }
        }
        due(line, example.group(3), () -> {
            for (Method method : face()) {
                if (method.getName().equals(example.group(1))) {
                    return answer(x, method, arguments.toArray());
                }
            }
            return "no such call";
        });
    }

    private static String answer(ClayTraps x, Method method, Object[] arguments) throws Exception {
        return String.valueOf(call(x, method, arguments));
    }

    // ---- the rest

    private static void words(List<String> lines) {
        String all = String.join(" ", lines);
        String[] wanted = {"`new ClayTraps()` makes an object", "at most 512 calls after it has been made",
            "A call that throws an exception changes nothing", "How to run its tests", "```sh .ci/run ```"};
        for (String words : wanted) {
            due("it says: " + words, true, () -> all.contains(words));
        }
    }
}
