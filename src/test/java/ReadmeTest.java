import java.lang.reflect.Method;
import java.nio.file.Files;
import java.nio.file.Path;
import java.util.ArrayList;
import java.util.Arrays;
import java.util.List;
import java.util.TreeSet;
import java.util.regex.Matcher;
import java.util.regex.Pattern;

/** README.md holds: its example answers what its comments say, and its table has every call with its parameters. */
public final class ReadmeTest {
    private static final String README = "README.md";
    private static final String DOCUMENT = "../shared/DOC.md";
    private static final String MAKING = "PrayerMatsFace mats = new PrayerMatsFace();";
    private static final Pattern CALL = Pattern.compile("mats\\.(\\w+)\\(([^)]*)\\);\\s*// (-?\\d+)(:.*)?");
    private static final Pattern FEEDING =
        Pattern.compile("for \\(char letter : \"([^\"]*)\"\\.toCharArray\\(\\)\\) mats\\.feed\\(letter\\);");
    private static final int LEAST_CALLS = 20;

    private static int wrong = 0;

    private static void fault(String text) {
        wrong++;
        System.out.println(text);
    }

    private static Method methodOf(String name) {
        for (Method m : PrayerMatsFace.class.getMethods()) {
            if (m.getDeclaringClass() == PrayerMatsFace.class && m.getName().equals(name)) return m;
        }
        return null;
    }

    private static void callAnswersAsTold(PrayerMatsFace mats, Matcher told) throws Exception {
        Method call = methodOf(told.group(1));
        Object[] arguments = told.group(2).isBlank() ? new Object[0]
            : Arrays.stream(told.group(2).split(",")).map(s -> (Object) Integer.valueOf(s.trim())).toArray();
        if (call == null || call.getParameterCount() != arguments.length) {
            fault("the class has no such call: " + told.group());
            return;
        }
        long got = ((Number) call.invoke(mats, arguments)).longValue();
        if (got != Long.parseLong(told.group(3))) fault(told.group() + " answered " + got);
    }

    private static void exampleHolds(String readme) throws Exception {
        int start = readme.indexOf("```java\n");
        int end = readme.indexOf("```", start + 1);
        if (start < 0 || end < 0) {
            fault("there is no example");
            return;
        }
        PrayerMatsFace mats = new PrayerMatsFace();
        int calls = 0;
        for (String line : readme.substring(start + "```java\n".length(), end).split("\n")) {
            Matcher call = CALL.matcher(line);
            Matcher feeding = FEEDING.matcher(line);
            if (call.matches()) {
                callAnswersAsTold(mats, call);
                calls++;
            } else if (feeding.matches()) {
                for (char letter : feeding.group(1).toCharArray()) mats.feed(letter);
            } else if (!line.isBlank() && !line.equals(MAKING)) {
                fault("this line of the example can't be looked at: " + line);
            }
        }
        if (calls < LEAST_CALLS) fault("the example has just " + calls + " calls");
    }

    /** The calls of a text, as name(parameters): those of the document's face have their types left out. */
    private static TreeSet<String> calls(Pattern pattern, String text) {
        List<String> calls = new ArrayList<>();
        Matcher m = pattern.matcher(text);
        while (m.find()) calls.add(m.group(1) + "(" + m.group(2).replaceAll("\\b(int|long) ", "") + ")");
        return new TreeSet<>(calls);
    }

    private static void tableHasEveryCall(String readme) throws Exception {
        StringBuilder table = new StringBuilder();
        for (String line : readme.split("\n")) {
            if (line.startsWith("|")) table.append(line).append('\n');
        }
        TreeSet<String> told = calls(Pattern.compile("`(\\w+)\\(([^)]*)\\)`"), table.toString());
        TreeSet<String> face = calls(Pattern.compile("public (?:int|long) (\\w+)\\(([^)]*)\\);"),
            Files.readString(Path.of(DOCUMENT)));
        if (!told.equals(face)) fault("the table has " + told + ", due is " + face);
    }

    public static void main(String[] arguments) throws Exception {
        String readme = Files.readString(Path.of(README));
        exampleHolds(readme);
        tableHasEveryCall(readme);
        if (wrong != 0) System.exit(1);
        System.out.println("the README's example and table are as due");
    }
}
