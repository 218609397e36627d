import java.io.IOException;
import java.lang.reflect.Field;
import java.lang.reflect.InvocationTargetException;
import java.lang.reflect.Method;
import java.nio.charset.StandardCharsets;
import java.nio.file.Files;
import java.nio.file.Path;
import java.util.ArrayList;
import java.util.List;
import java.util.TreeSet;
import java.util.regex.Matcher;
import java.util.regex.Pattern;
import java.util.stream.Collectors;
import java.util.stream.Stream;

/**
 * What README.md says is true: its run of calls is run, each call with the answer that the line
 * tells behind it; the files, tests and constants that it names are there, and it names all tests.
 */
public final class ReadmeTests {
    private static final Path README = Path.of("README.md");
    private static final Path TESTS = Path.of("src/test/java");
    private static final String MADE = "WeekOrders w = new WeekOrders();";
    private static final int FEWEST_CALLS = 30;
    private static final int MOST_CALLS = 512;

    /** Calls, and behind them their answers, one after another, and words. */
    private static final Pattern LINE =
        Pattern.compile("((?:w\\.\\w+\\([^()]*\\);\\s*)+)// (-?\\d+(?:, -?\\d+)*)(?:: (.*))?");
    private static final Pattern CALL = Pattern.compile("w\\.(\\w+)\\(([^()]*)\\);");
    private static final Pattern NAMED = Pattern.compile("`([^`\\s]+)`");
    private static final Pattern CONSTANT = Pattern.compile("[A-Z]{2,}");

    private static int calls = 0;
    private static int wrong = 0;

    private static void hold(String what, boolean holds) {
        if (!holds) {
            wrong++;
            System.out.println("does not hold: " + what);
        }
    }

    // ---- the run of calls

    private static List<String> run(String readme) {
        String[] parts = readme.split("```java\n");
        hold("there is one run of calls", parts.length == 2);
        int end = parts.length == 2 ? parts[1].indexOf("\n```\n") : -1;
        hold("the run of calls ends", end >= 0);
        List<String> lines = new ArrayList<>();
        for (String line : end < 0 ? new String[0] : parts[1].substring(0, end).split("\n")) {
            if (!line.isBlank()) {
                lines.add(line);
            }
        }
        return lines;
    }

    private static void tryRun(List<String> lines) {
        hold("the run begins with " + MADE, !lines.isEmpty() && lines.get(0).equals(MADE));
        WeekOrders w = new WeekOrders();
        for (int i = 1; i < lines.size(); i++) {
            Matcher line = LINE.matcher(lines.get(i));
            boolean told = line.matches();
            hold("calls and their answers: " + lines.get(i), told);
            if (told) {
                tryLine(w, line.group(1), line.group(2).split(", "));
                constants(line.group(2), line.group(3) == null ? "" : line.group(3));
            }
        }
        hold("some calls are told: " + calls, calls >= FEWEST_CALLS && calls <= MOST_CALLS);
    }

    private static void tryLine(WeekOrders w, String text, String[] answers) {
        Matcher call = CALL.matcher(text);
        int i = 0;
        while (call.find()) {
            String due = i < answers.length ? answers[i] : "not told";
            String got = answer(w, call.group(1), call.group(2));
            hold(call.group() + " answers " + due + ", but it answered " + got, got.equals(due));
            calls++;
            i++;
        }
        hold(text + " has " + answers.length + " answers", i == answers.length);
    }

    private static String answer(WeekOrders w, String name, String text) {
        String[] words = text.isBlank() ? new String[0] : text.split(", ");
        Class<?>[] types = new Class<?>[words.length];
        Object[] arguments = new Object[words.length];
        for (int i = 0; i < words.length; i++) {
            types[i] = int.class;
            arguments[i] = number(words[i]);
        }
        try {
            Method method = WeekOrders.class.getMethod(name, types);
            return String.valueOf(method.invoke(w, arguments));
        } catch (NoSuchMethodException | IllegalAccessException e) {
            return "nothing, there is no such call";
        } catch (InvocationTargetException e) {
            return "by throwing " + e.getCause();
        }
    }

    private static int number(String word) {
        if (word.matches("'.'")) {
            return word.charAt(1);
        }
        return word.startsWith("0b") ? Integer.parseInt(word.substring(2), 2) : Integer.parseInt(word);
    }

    /** A line whose words tell constants has an answer that is made of just these. */
    private static void constants(String answers, String words) {
        Matcher constant = CONSTANT.matcher(words);
        long sum = 0;
        boolean any = false;
        while (constant.find()) {
            any = true;
            sum += valueOf(constant.group());
        }
        boolean refused = answers.startsWith("-");
        hold(answers + " is told by its constants: " + words, any == refused);
        hold(words + " is " + answers, !any || answers.equals(Long.toString(sum)));
    }

    private static long valueOf(String constant) {
        for (Field field : WeekOrders.class.getFields()) {
            if (field.getName().equals(constant)) {
                try {
                    return field.getLong(null);
                } catch (IllegalAccessException e) {
                    break;
                }
            }
        }
        hold("there is a constant " + constant, false);
        return 0;
    }

    // ---- what the page names; what lies beside the project, in ../shared, is not looked at

    private static void names(String readme) throws IOException {
        TreeSet<String> tests = new TreeSet<>();
        try (Stream<Path> files = Files.list(TESTS)) {
            tests.addAll(files.map(f -> f.getFileName().toString().replace(".java", ""))
                .collect(Collectors.toList()));
        }
        TreeSet<String> named = new TreeSet<>();
        Matcher matcher = NAMED.matcher(readme.replaceAll("(?s)```.*?```", ""));
        while (matcher.find()) {
            String name = matcher.group(1);
            named.add(name);
            if (name.matches("(\\.?\\w+/).*")) {
                hold(name + " is there", Files.exists(Path.of(name)));
            } else if (name.startsWith("promise")) {
                hold(name + " is a test", isTold(name));
            } else if (CONSTANT.matcher(name).matches()) {
                valueOf(name);
            }
        }
        for (String test : tests) {
            hold("the page names " + test, named.contains(test));
        }
        named.removeIf(name -> !name.endsWith("Tests"));
        hold("the tests that it names are there: " + named, tests.containsAll(named));
        hold("it tells how they are run", readme.contains("```\n.ci/run\n```") && Files.exists(Path.of(".ci/run")));
    }

    private static boolean isTold(String test) throws IOException {
        try (Stream<Path> files = Files.list(TESTS)) {
            for (Path file : files.collect(Collectors.toList())) {
                if (Files.readString(file, StandardCharsets.US_ASCII).contains("static void " + test + "()")) {
                    return true;
                }
            }
        }
        return false;
    }

    public static void main(String[] args) throws IOException {
        String readme = Files.readString(README, StandardCharsets.UTF_8);
        tryRun(run(readme));
        names(readme);
        System.out.println(calls + " calls of README.md run, " + wrong + " wrong");
        if (wrong != 0) {
            System.exit(1);
        }
    }
}
