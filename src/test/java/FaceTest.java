import java.lang.reflect.Constructor;
import java.lang.reflect.Field;
import java.lang.reflect.Method;
import java.lang.reflect.Modifier;
import java.nio.file.Files;
import java.nio.file.Path;
import java.util.ArrayList;
import java.util.Arrays;
import java.util.List;
import java.util.TreeSet;
import java.util.regex.Matcher;
import java.util.regex.Pattern;

/** The public face, the rules of LANGUAGE.md that a text or a class shows, and the room that a run takes. */
public final class FaceTest {
    private static final Due DUE = new Due("FaceTest");
    private static final String[] FACE = {
        "int street(int, int, int, int)", "int ofPerson(int, int)", "int word(int, int)", "int unsay(int)",
        "int bribe(int, boolean)", "int whisper(int, int)", "int forget(int)", "int says(int)", "int crowd(int)",
        "int heard(int, int, int)", "int silence()", "int noticed()", "int fewest()", "int bribes(int)",
        "int whispers(int)", "int worth(int)", "int asked(int, int, int, int)", "int reading(int, int, boolean)",
        "int back(int)", "int where(int)", "int paid()", "long odds(int, int, int)", "int sheet(int, int, int)",
        "int lose(int)", "int put(int, int, int)", "long cell(int, int, int)", "int copy(int, int, int, int, int)",
        "int tell(int)", "int bow(int)", "int as(int, int)", "int trace()", "int fault()", "int many(int)"};

    public static void main(String[] args) throws Exception {
        constants();
        methods();
        faceOfTheDocument();
        membersBesideTheFace();
        namesOfTheFaceAreTakenOnce();
        classesInside();
        wordsThatMustNotStand();
        methodsAreShort();
        roomOfARun();
        DUE.end();
    }

    private static void constants() {
        DUE.is("UNKNOWN", SilkWord.UNKNOWN, -1);
        DUE.is("OUTSIDE", SilkWord.OUTSIDE, -2);
        DUE.is("STATE", SilkWord.STATE, -3);
        DUE.is("FULL", SilkWord.FULL, -4);
        DUE.is("NONE", SilkWord.NONE, -9);
        DUE.is("LOST", SilkWord.LOST, Long.MIN_VALUE);
    }

    private static String told(Method method) {
        List<String> takes = new ArrayList<>();
        for (Class<?> type : method.getParameterTypes()) {
            takes.add(type.getSimpleName());
        }
        return method.getReturnType().getSimpleName() + " " + method.getName() + "(" + String.join(", ", takes) + ")";
    }

    private static void methods() {
        TreeSet<String> there = new TreeSet<>();
        for (Method method : SilkWord.class.getDeclaredMethods()) {
            if (!Modifier.isPrivate(method.getModifiers())) {
                there.add(told(method));
                DUE.is(told(method) + " is public and nothing else", method.getModifiers(), Modifier.PUBLIC);
            }
        }
        DUE.isTrue("the methods are those of the document: " + there, there.equals(new TreeSet<>(Arrays.asList(FACE))));
    }

    /** The list above is the document's own, in its order. */
    private static void faceOfTheDocument() throws Exception {
        Path document = Path.of("../shared/DOC.md");
        if (!Files.exists(document)) {
            System.out.println(document + " is not there: its face is not looked at");
            return;
        }
        List<String> told = new ArrayList<>();
        Matcher line = Pattern.compile("(?m)^    public (int|long) (\\w+)\\(([^)]*)\\);$").matcher(Files.readString(document));
        while (line.find()) {
            String takes = line.group(3).replaceAll("(int|long|boolean) \\w+", "$1");
            told.add(line.group(1) + " " + line.group(2) + "(" + takes + ")");
        }
        DUE.isTrue("the document's face is " + told, told.equals(Arrays.asList(FACE)));
    }

    private static void membersBesideTheFace() {
        DUE.is("the class", SilkWord.class.getModifiers(), Modifier.PUBLIC | Modifier.FINAL);
        Constructor<?>[] made = SilkWord.class.getDeclaredConstructors();
        DUE.is("constructors", made.length, 1);
        DUE.is("parameters of the constructor", made[0].getParameterCount(), 0);
        DUE.is("the constructor", made[0].getModifiers(), Modifier.PUBLIC);
        TreeSet<String> seen = new TreeSet<>();
        for (Field field : SilkWord.class.getDeclaredFields()) {
            if (!Modifier.isPrivate(field.getModifiers())) {
                seen.add(field.getName());
            }
        }
        DUE.isTrue("fields to be seen: " + seen, seen.equals(new TreeSet<>(
                Arrays.asList("UNKNOWN", "OUTSIDE", "STATE", "FULL", "NONE", "LOST"))));
    }

    private static void namesOfTheFaceAreTakenOnce() {
        TreeSet<String> names = new TreeSet<>();
        for (String method : FACE) {
            names.add(method.split("[ (]")[1]);
        }
        DUE.is("names of the face", names.size(), FACE.length);
        for (Class<?> inside : SilkWord.class.getDeclaredClasses()) {
            for (Method method : inside.getDeclaredMethods()) {
                DUE.isTrue(inside.getSimpleName() + "." + method.getName() + " is no name of the face",
                        !names.contains(method.getName()));
            }
        }
        int alike = 0;
        for (Method method : SilkWord.class.getDeclaredMethods()) {
            alike += names.contains(method.getName()) ? 1 : 0;
        }
        DUE.is("methods with a name of the face", alike, FACE.length);
    }

    private static void classesInside() {
        Class<?>[] inside = SilkWord.class.getDeclaredClasses();
        DUE.isTrue("some twelve classes at most", inside.length + 1 <= 12);
        for (Class<?> one : inside) {
            DUE.isTrue(one + " is static", Modifier.isStatic(one.getModifiers()));
            DUE.isTrue(one + " is not to be seen from outside", !Modifier.isPublic(one.getModifiers()));
            for (Field field : one.getDeclaredFields()) {
                boolean fixed = !Modifier.isStatic(field.getModifiers()) || Modifier.isFinal(field.getModifiers());
                DUE.isTrue(field + " is no changing static field", fixed);
            }
            for (Method method : one.getDeclaredMethods()) {
                DUE.isTrue(method + " takes seven at most", method.getParameterCount() <= 7);
            }
        }
    }

    private static String source() throws Exception {
        return Files.readString(Path.of("src/main/java/SilkWord.java"));
    }

    private static void wordsThatMustNotStand() throws Exception {
        String code = source().replaceAll("(?s)/\\*.*?\\*/", "").replaceAll("//[^\n]*", "");
        String[] banned = {"\\bthrow\\b", "\\btry\\b", "\\bcatch\\b", "\\bsynchronized\\b", "\\bassert\\b", "\\bimport\\b",
            "\\bpackage\\b", "->", "::", "@", "\\bprotected\\b", "Exact\\b", "\\bSystem\\.(?!arraycopy)",
            "\\bequals\\b", "\\bhashCode\\b", "\\btoString\\b", "\\bdouble\\b", "\\bfloat\\b"};
        for (String word : banned) {
            Matcher found = Pattern.compile(word).matcher(code);
            DUE.isTrue("no " + word + " in the class", !found.find());
        }
        DUE.isTrue("plain signs alone", source().chars().allMatch(sign -> sign == '\n' || sign >= 32 && sign < 127));
    }

    private static void methodsAreShort() throws Exception {
        Pattern method = Pattern.compile("(?m)^((?: {4}){1,2})[a-zA-Z][^;=]*\\) \\{\\n(?s:(.*?))\\n\\1\\}$");
        Matcher found = method.matcher(source());
        int methods = 0;
        for (int at = 0; found.find(at); at = found.end()) {
            methods++;
            long lines = found.group(2).lines().count();
            DUE.isTrue("sixty lines at most: " + found.group().lines().findFirst().get(), lines <= 60);
        }
        DUE.isTrue("methods are found: " + methods, methods > FACE.length);
    }

    /** The dearest calls, as many as an object is used for, in bytes: the whole room is some 30 million. */
    private static void roomOfARun() {
        com.sun.management.ThreadMXBean counts =
                (com.sun.management.ThreadMXBean) java.lang.management.ManagementFactory.getThreadMXBean();
        long own = Thread.currentThread().getId();
        counts.getThreadAllocatedBytes(own);
        long ahead = counts.getThreadAllocatedBytes(own);
        SilkWord x = Due.streetOf("n;t36;t36;t36;c56;c56;s56;s06");
        for (int turn = 0; turn < 64; turn++) {
            x.street(3, 0, 0, 29);
            x.sheet(2, 2, 60);
            x.word(0, 0);
            x.fewest();
            x.bribes(0);
            x.whispers(1);
            x.odds(0, 39, 1);
            x.where(0);
        }
        long taken = counts.getThreadAllocatedBytes(own) - ahead;
        DUE.isTrue("a run takes little room: " + taken, taken < 100_000);
    }
}
