import java.lang.reflect.Constructor;
import java.lang.reflect.Field;
import java.lang.reflect.Member;
import java.lang.reflect.Method;
import java.lang.reflect.Modifier;
import java.nio.file.Files;
import java.nio.file.Path;
import java.util.ArrayList;
import java.util.List;
import java.util.TreeSet;
import java.util.regex.Matcher;
import java.util.regex.Pattern;

/** The public face is the document's, and the source has no word that LANGUAGE.md leaves out. */
public final class FaceTest {
    private static final String DOCUMENT = "../shared/DOC.md";
    private static final String SOURCE = "src/main/java/PrayerMatsFace.java";
    private static final String[] LEFT_OUT = {
        "\\bthrow\\b", "\\bthrows\\b", "\\btry\\b", "\\bcatch\\b", "\\bsynchronized\\b", "\\bassert\\b", "->", "::",
        "\\bimport\\b", "\\bpackage\\b", "Exact\\(", "\\bprotected\\b", "\\bSystem\\.(?!arraycopy)", "\\bObject\\b",
        "\\bstatic \\{"};

    private static int wrong = 0;

    private static void fault(String text) {
        wrong++;
        System.out.println(text);
    }

    private static String signature(Method m) {
        StringBuilder s = new StringBuilder();
        s.append(m.getReturnType().getSimpleName()).append(' ').append(m.getName()).append('(');
        for (int i = 0; i < m.getParameterCount(); i++) {
            if (i > 0) s.append(", ");
            s.append(m.getParameterTypes()[i].getSimpleName());
        }
        return s.append(')').toString();
    }

    private static TreeSet<String> promised() throws Exception {
        TreeSet<String> face = new TreeSet<>();
        Matcher m = Pattern.compile("public (int|long) (\\w+)\\(([^)]*)\\);").matcher(Files.readString(Path.of(DOCUMENT)));
        while (m.find()) face.add(m.group(1) + " " + m.group(2) + "(" + m.group(3).replaceAll("(int|long) \\w+", "$1") + ")");
        return face;
    }

    private static void faceIsTheDocuments() throws Exception {
        TreeSet<String> open = new TreeSet<>();
        TreeSet<String> openNames = new TreeSet<>();
        List<Member> members = new ArrayList<>();
        for (Method m : PrayerMatsFace.class.getDeclaredMethods()) {
            if (m.isSynthetic()) continue;
            if (Modifier.isPublic(m.getModifiers())) {
                open.add(signature(m));
                openNames.add(m.getName());
            } else {
                members.add(m);
            }
        }
        TreeSet<String> promised = promised();
        if (promised.size() != 44) fault("the document has " + promised.size() + " methods in its face");
        if (!open.equals(promised)) fault("the face is " + open + ", due is " + promised);
        for (Field f : PrayerMatsFace.class.getDeclaredFields()) members.add(f);
        for (Member m : members) {
            if (!m.isSynthetic() && !Modifier.isPrivate(m.getModifiers())) fault(m.getName() + " isn't private");
            if (m instanceof Method && openNames.contains(m.getName())) fault(m.getName() + " bears a public name");
        }
        Constructor<?>[] constructors = PrayerMatsFace.class.getDeclaredConstructors();
        boolean one = constructors.length == 1 && constructors[0].getParameterCount() == 0;
        if (!one || !Modifier.isPublic(constructors[0].getModifiers())) fault("the constructor isn't the document's");
        if (!Modifier.isFinal(PrayerMatsFace.class.getModifiers())) fault("the class isn't final");
    }

    private static void sourceKeepsToTheLanguage() throws Exception {
        String source = Files.readString(Path.of(SOURCE));
        String code = source.replaceAll("(?s)/\\*.*?\\*/", " ").replaceAll("//[^\n]*", " ");
        for (String word : LEFT_OUT) {
            Matcher m = Pattern.compile(word).matcher(code);
            if (m.find()) fault("the source has " + m.group());
        }
        for (int i = 0; i < source.length(); i++) {
            if (source.charAt(i) > 126) fault("the source has a sign above 126 at " + i);
        }
        Matcher calls = Pattern.compile("\\b([A-Z]\\w*)\\.(\\w+)\\(").matcher(code);
        TreeSet<String> library = new TreeSet<>(List.of("Integer.bitCount", "Math.max", "Math.min"));
        while (calls.find()) {
            if (!library.contains(calls.group(1) + "." + calls.group(2))) fault("the source calls " + calls.group());
        }
        Matcher classes = Pattern.compile("\\bclass \\w+").matcher(code);
        int count = 0;
        while (classes.find()) count++;
        if (count > 12) fault("the source has " + count + " classes");
    }

    public static void main(String[] args) throws Exception {
        faceIsTheDocuments();
        sourceKeepsToTheLanguage();
        System.out.println(wrong == 0 ? "the face and the source are as due" : wrong + " faults");
        if (wrong != 0) System.exit(1);
    }
}
