import java.lang.reflect.InvocationTargetException;
import java.lang.reflect.Method;
import java.nio.file.Files;
import java.nio.file.Path;
import java.util.ArrayList;
import java.util.Arrays;
import java.util.HashMap;
import java.util.List;
import java.util.Map;
import java.util.TreeSet;
import java.util.regex.Matcher;
import java.util.regex.Pattern;

/** What the boundary tests share: the sentence that a test holds, the answer due, a refused call beside a twin. */
abstract class Boundary {
    /** Makes the same object each time, so that one can be asked and the other be compared with it. */
    interface Scene {
        PrayerMatsFace make();
    }

    static final int LEAST = Integer.MIN_VALUE;
    static final int MOST = Integer.MAX_VALUE;

    private static final long INT_REFUSAL = 1000000000L;
    private static final long LONG_REFUSAL = 4000000000000000000L;
    private static final String DOCUMENT = "../shared/DOC.md";
    private static final String FIRST_PROMISE = "## Promise 1:";
    private static final int SHOWN = 60;

    private static final String TEXT = document();
    private static final Map<String, Method> CALLS = calls();

    private static int wrong = 0;
    private static int sentences = 0;
    private static int promise = 0;
    private static String words = "";
    private static final TreeSet<Integer> HELD = new TreeSet<>();
    private static final TreeSet<String> ANSWERED = new TreeSet<>();

    private static String document() {
        try {
            return Files.readString(Path.of(DOCUMENT));
        } catch (java.io.IOException e) {
            throw new IllegalStateException(DOCUMENT + " can't be read", e);
        }
    }

    private static Map<String, Method> calls() {
        Map<String, Method> calls = new HashMap<>();
        for (Method m : PrayerMatsFace.class.getMethods()) {
            if (m.getDeclaringClass() == PrayerMatsFace.class) calls.put(m.getName(), m);
        }
        return calls;
    }

    static void fault(String text) {
        wrong++;
        if (wrong > SHOWN) return;
        System.out.println("promise " + promise + ", \"" + words + "\": " + text);
    }

    /** Names what the following lines hold; the words must stand in the document, in that promise or ahead of all. */
    static void sentence(int ofPromise, String ofDocument) {
        promise = ofPromise;
        words = ofDocument;
        sentences++;
        HELD.add(ofPromise);
        String ahead = TEXT.substring(0, TEXT.indexOf(FIRST_PROMISE));
        if (!ahead.contains(ofDocument) && !section(ofPromise).contains(ofDocument)) {
            fault("the document has no such words");
        }
    }

    static String section(int ofPromise) {
        int start = TEXT.indexOf("## Promise " + ofPromise + ":");
        int end = TEXT.indexOf("\n## ", start);
        return TEXT.substring(start, end < 0 ? TEXT.length() : end);
    }

    static long ask(PrayerMatsFace x, String call, int... arguments) {
        Object[] boxed = Arrays.stream(arguments).boxed().toArray();
        try {
            return ((Number) CALLS.get(call).invoke(x, boxed)).longValue();
        } catch (InvocationTargetException e) {
            fault(told(call, arguments) + " threw " + e.getCause());
            return Long.MIN_VALUE;
        } catch (IllegalAccessException e) {
            throw new IllegalStateException(e);
        }
    }

    static String told(String call, int... arguments) {
        String list = Arrays.toString(arguments);
        return call + "(" + list.substring(1, list.length() - 1) + ")";
    }

    static void due(PrayerMatsFace x, long want, String call, int... arguments) {
        long got = ask(x, call, arguments);
        ANSWERED.add(promise + " " + want);
        if (got != want) fault(told(call, arguments) + " answered " + got + ", due is " + want);
    }

    /** The number that the call answers, and that nothing has changed by it but how many such refusals there were. */
    static void refused(Scene scene, int number, String call, int... arguments) {
        PrayerMatsFace x = scene.make();
        long got = ask(x, call, arguments);
        long want = answerOf(number, call);
        ANSWERED.add(promise + " " + number);
        if (got != want) fault(told(call, arguments) + " answered " + got + ", due is " + want);
        List<Long> due = everythingOf(scene.make());
        int counted = 7 - number;
        due.set(counted, due.get(counted) + 1);
        compare(told(call, arguments), everythingOf(x), due);
    }

    /** "-1 either (one twice)": no such one, on both sides of those that there are, and one twice. */
    static void twoRefused(String call, int... rest) {
        int[][] twos = {{0, 2}, {2, 0}, {-1, 0}, {0, -1}, {2, 3}, {0, 0}, {1, 1}, {2, 2}, {-1, -1}, {MOST, 1}, {1, LEAST}};
        for (int[] two : twos) refused(Scenes::lively, -1, call, with(two, rest));
        refused(Scenes::full, -1, call, with(new int[] {5, 6}, rest));
        refused(Scenes::full, -1, call, with(new int[] {6, 5}, rest));
        refused(Scenes::full, -1, call, with(new int[] {5, 5}, rest));
        refused(Scenes::alone, -1, call, with(new int[] {0, 1}, rest));
        refused(Scenes::nobody, -1, call, with(new int[] {0, 1}, rest));
    }

    /** "-1" of one: no such one, on both sides of those that there are. */
    static void oneRefused(String call, int... rest) {
        for (int one : new int[] {-1, 2, MOST, LEAST}) refused(Scenes::lively, -1, call, with(new int[] {one}, rest));
        refused(Scenes::full, -1, call, with(new int[] {6}, rest));
        refused(Scenes::alone, -1, call, with(new int[] {1}, rest));
        refused(Scenes::nobody, -1, call, with(new int[] {0}, rest));
    }

    private static int[] with(int[] people, int... rest) {
        int[] arguments = Arrays.copyOf(people, people.length + rest.length);
        System.arraycopy(rest, 0, arguments, people.length, rest.length);
        return arguments;
    }

    static long answerOf(int number, String call) {
        if (CALLS.get(call).getReturnType() == long.class) return LONG_REFUSAL - number;
        return call.equals("turn") || call.equals("helps") ? INT_REFUSAL - number : number;
    }

    /** A call in mind: its answer, and that nothing at all has changed by it. */
    static void inMind(Scene scene, long want, String call, int... arguments) {
        PrayerMatsFace x = scene.make();
        due(x, want, call, arguments);
        compare(told(call, arguments), everythingOf(x), everythingOf(scene.make()));
    }

    /** A QUARTER with a FAULT: its number, and that nothing has changed, as if no letter had come. */
    static void faulty(Scene scene, long want, String letters) {
        PrayerMatsFace x = scene.make();
        feed(x, letters);
        due(x, want, "quarter");
        compare("the QUARTER " + letters, everythingOf(x), everythingOf(scene.make()));
    }

    private static void compare(String call, List<Long> got, List<Long> want) {
        for (int i = 0; i < Math.max(got.size(), want.size()); i++) {
            if (i < got.size() && i < want.size() && got.get(i).equals(want.get(i))) continue;
            fault(call + " has changed something: look " + i + " is " + got + ", due is " + want);
            return;
        }
    }

    static void feed(PrayerMatsFace x, String letters) {
        for (int i = 0; i < letters.length(); i++) x.feed(letters.charAt(i));
    }

    static long say(PrayerMatsFace x, String letters) {
        feed(x, letters);
        return x.quarter();
    }

    static PrayerMatsFace told(String letters) {
        PrayerMatsFace x = new PrayerMatsFace();
        int statements = 0;
        for (int i = 0; i < letters.length(); i++) {
            if (letters.charAt(i) == ';') statements++;
        }
        long got = say(x, letters);
        if (got != statements) fault("the QUARTER " + letters + " answered " + got + ", due is " + statements);
        return x;
    }

    static void row(PrayerMatsFace x, int... numbers) {
        x.clear();
        for (int number : numbers) x.row(number);
    }

    static void clock(PrayerMatsFace x, int day) {
        while (x.count(1) + 60 <= day) x.days(60);
        if (x.count(1) < day) x.days(day - x.count(1));
    }

    // Of what is taken back only sums are looked at: with all of it some object would have more than 512 calls.
    /** The first 14 are the counts 0 .. 7 and 11 .. 16; then all that a call can show, at the cost of the object. */
    private static List<Long> everythingOf(PrayerMatsFace x) {
        List<Long> all = new ArrayList<>();
        for (int what = 0; what <= 7; what++) all.add(ask(x, "count", what));
        for (int what = 11; what <= 16; what++) all.add(ask(x, "count", what));
        addPeople(all, x);
        for (int what = 0; what <= 3; what++) {
            all.add(ask(x, "who", 0, 1, what));
            all.add(ask(x, "who", 4, 5, what));
        }
        all.add(ask(x, "judge", 0));
        for (int i = 0; i < 9 && ask(x, "count", 7) > 0; i++) {
            all.add(ask(x, "back"));
            for (int what = 1; what <= 4; what++) all.add(ask(x, "count", what));
        }
        addPeople(all, x);
        all.add(ask(x, "restore"));
        addPeople(all, x);
        all.add(ask(x, "quarter"));
        addPeople(all, x);
        all.add(ask(x, "person", 0, 0, 0));
        addPeople(all, x);
        return all;
    }

    private static void addPeople(List<Long> all, PrayerMatsFace x) {
        int people = x.count(0);
        all.add((long) people);
        all.add((long) x.count(1));
        for (int person = 0; person < people; person++) {
            for (int what = 0; what <= 3; what++) all.add(ask(x, "personOf", person, what));
            for (int other = person + 1; other < people; other++) all.add(ask(x, "between", person, other, 0));
        }
    }

    /** Each promise must have had a test of a sentence, and of each refusal and each -9 that it tells. */
    static void end(int first, int last) {
        for (promise = first; promise <= last; promise++) {
            words = "";
            if (!HELD.contains(promise)) fault("no sentence of it is tested");
            Matcher m = Pattern.compile("(?<![\\w.])-[123469]\\b").matcher(section(promise));
            while (m.find()) {
                if (!ANSWERED.contains(promise + " " + m.group()) && canBe(promise, m.group())) {
                    fault("no test of " + m.group());
                }
            }
        }
        result(sentences + " sentences hold");
    }

    static void result(String allIsWell) {
        System.out.println(wrong == 0 ? allIsWell : wrong + " answers are not as due");
        if (wrong != 0) System.exit(1);
    }

    // WAYS is the same game for both, and such a game of two choices always has a pair that neither leaves. The -9 of
    // PAIRINGS is that of one alone: LIKES and his own CHARM are the same both ways, so those two of all who would have
    // each other with most of it never part, then those of the others, and so on: there is always a steady one.
    // count() names the other calls' REFUSALS and has none itself.
    private static boolean canBe(int ofPromise, String number) {
        boolean none = number.equals("-9");
        return ofPromise == 26 ? !none : ofPromise != 45 || none;
    }
}
