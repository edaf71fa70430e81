import java.util.ArrayList;
import java.util.LinkedHashSet;
import java.util.List;
import java.util.Set;
import java.util.TreeSet;
import java.util.regex.Matcher;
import java.util.regex.Pattern;

/**
 * Every call that can be refused, with all arguments at their edges at once: the first number that fits in the order in
 * which the document itself tells them, counted once, and none where nothing fits.
 */
public final class RefusalsTest extends Boundary {
    private static final String ORDER = "the call answers the number, the first that fits in the order in which it tells them";
    private static final int COUNTS = 17;
    // An object is promised for 512 calls: the fullest scene takes 200 of them, each check 2 times 17.
    private static final int CHECKS_OF_ONE_OBJECT = 6;

    /** What an argument may be: somebody, somebody or -1 for none, one of a few choices or hours, a number. */
    private static final class Argument {
        final char kind;
        final int least;
        final int greatest;

        Argument(String told) {
            kind = told.charAt(0);
            String[] ends = told.length() > 1 ? told.substring(1).split("\\.\\.") : new String[] {"0", "0"};
            least = Integer.parseInt(ends[0]);
            greatest = Integer.parseInt(ends[1]);
        }

        boolean isSomebody() {
            return kind == 's' || kind == 'a';
        }

        int least(int people) {
            return kind == 'a' ? -1 : isSomebody() ? 0 : least;
        }

        int greatest(int people) {
            return isSomebody() ? people - 1 : greatest;
        }

        TreeSet<Integer> edges(int people) {
            int low = least(people);
            int high = greatest(people);
            return new TreeSet<>(List.of(LEAST, low - 1, low, Math.max(low, high), high + 1, MOST));
        }

        /** The refusal of this argument by itself, or 0. */
        int refusal(int people, int value) {
            boolean below = value < least(people);
            boolean above = value > greatest(people);
            if (!below && !above) return 0;
            if (kind == 'n') return below ? -4 : -6;
            return kind == 'w' ? -2 : -1;
        }
    }

    /** Arguments: s somebody, a somebody or -1 for all, h an HOUR, w what or KIND, n a number. */
    private static final String[] CALLS = {
        "2 feed n0..255", "4 personOf s w0..6", "5 between s s w0..1", "6 person w0..5 n0..9 n0..31", "7 comes s n0..31",
        "8 quarrels s s n0..99", "9 joins s s", "10 days n1..60", "11 back", "12 behind s s n0..99",
        "13 all n0..99 w0..2", "14 mended s s", "16 turn s s", "17 leaves w0..2", "18 pairings a",
        "19 bestPairing n0..99 a", "20 soonest s s", "21 mateFor s w0..1", "22 hoursFor s w0..1", "24 glad s",
        "25 who s s w0..3", "26 ways s s", "27 away s s n0..99 n0..8 n2..20 w0..1", "28 fullest w0..1", "31 chain s",
        "34 mean w0..1", "35 enemy s", "37 helps s h0..4 n0..99", "39 row n0..99", "40 judge s",
        "42 lots n1..20 n-2147483648..2147483647 w0..1", "44 restore"};

    private static final List<Scene> SCENES = List.of(Scenes::nobody, Scenes::alone, Scenes::lively, Scenes::full,
        () -> Scenes.onDay(939), () -> Scenes.onDay(940), () -> Scenes.onDay(998), () -> Scenes.onDay(999));

    private final String call;
    private final List<Argument> arguments = new ArrayList<>();
    private final List<Integer> order;
    private final Scene scene;
    private final int people;
    private PrayerMatsFace asked;
    private int checks;

    private RefusalsTest(String told, Scene scene) {
        String[] words = told.split(" ");
        call = words[1];
        for (int i = 2; i < words.length; i++) arguments.add(new Argument(words[i]));
        order = orderIn(section(promiseOf(told)));
        this.scene = scene;
        people = scene.make().count(0);
    }

    private static int promiseOf(String told) {
        return Integer.parseInt(told.substring(0, told.indexOf(' ')));
    }

    private static List<Integer> orderIn(String section) {
        Set<Integer> numbers = new LinkedHashSet<>();
        Matcher m = Pattern.compile("(?<![\\w.])-[12346]\\b").matcher(section);
        while (m.find()) numbers.add(Integer.parseInt(m.group()));
        return new ArrayList<>(numbers);
    }

    private void tryAll(int[] values, int place) {
        if (place == values.length) {
            check(values);
            return;
        }
        for (int value : arguments.get(place).edges(people)) {
            values[place] = value;
            tryAll(values, place + 1);
        }
    }

    private void check(int[] values) {
        if (asked == null || checks == CHECKS_OF_ONE_OBJECT) {
            asked = scene.make();
            checks = 0;
        }
        checks++;
        int due = firstThatFits(values);
        long[] want = counts();
        if (due == 0) {
            ask(asked, call, values);
            same(values, want, counts(), 11);
            asked = null;
            return;
        }
        due(asked, answerOf(due, call), call, values);
        want[10 - due]++;
        same(values, want, counts(), 0);
    }

    private void same(int[] values, long[] want, long[] got, int from) {
        for (int what = from; what < COUNTS; what++) {
            if (got[what] != want[what]) fault(told(call, values) + " made count(" + what + ") " + got[what] + ", due is " + want[what]);
        }
    }

    private long[] counts() {
        long[] counts = new long[COUNTS];
        for (int what = 0; what < COUNTS; what++) counts[what] = asked.count(what);
        return counts;
    }

    private int firstThatFits(int[] values) {
        Set<Integer> fitting = new TreeSet<>();
        int before = -1;
        for (int i = 0; i < values.length; i++) {
            Argument argument = arguments.get(i);
            fitting.add(argument.refusal(people, values[i]));
            if (!argument.isSomebody()) continue;
            if (before >= 0 && values[before] == values[i]) fitting.add(-1);
            before = i;
        }
        if (isWithoutRoom(values)) fitting.add(-6);
        if (isNotAsTold()) fitting.add(-3);
        fitting.remove(0);
        if (!order.containsAll(fitting)) fault(told(call, values) + " would be refused by " + fitting + ", told are " + order);
        for (int number : order) {
            if (fitting.contains(number)) return number;
        }
        return 0;
    }

    private boolean isWithoutRoom(int[] values) {
        switch (call) {
            case "feed": return asked.count(5) == 96;
            case "person": return people == 6;
            case "row": return asked.count(6) == 12;
            case "days": return (long) asked.count(1) + values[0] > 999;
            default: return false;
        }
    }

    private boolean isNotAsTold() {
        if (call.equals("back")) return asked.count(7) == 0;
        // Of the scenes, these two have no image: whether there is one, no count tells.
        return call.equals("restore") && people < 2;
    }

    /** The last promise names the numbers of the others and has none itself. */
    private static void everyRefusalIsTried() {
        Set<Integer> tried = new TreeSet<>();
        for (String told : CALLS) tried.add(promiseOf(told));
        for (int promise = 1; promise < 45; promise++) {
            if (orderIn(section(promise)).isEmpty() == tried.contains(promise)) fault("promise " + promise + " and its refusals");
        }
    }

    public static void main(String[] args) {
        everyRefusalIsTried();
        for (String told : CALLS) {
            sentence(promiseOf(told), ORDER);
            for (Scene scene : SCENES) {
                RefusalsTest test = new RefusalsTest(told, scene);
                test.tryAll(new int[test.arguments.size()], 0);
            }
        }
        sentence(45, "-9 for another what.");
        for (int what : new int[] {LEAST, -1, 8, 9, 10, 17, MOST}) inMind(Scenes::full, -9, "count", what);
        result(CALLS.length + " calls are refused in the document's order");
    }
}
