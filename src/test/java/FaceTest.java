import java.io.IOException;
import java.lang.reflect.Field;
import java.lang.reflect.Method;
import java.lang.reflect.Modifier;
import java.nio.file.Files;
import java.nio.file.Path;
import java.util.Set;
import java.util.TreeSet;
import java.util.regex.Matcher;
import java.util.regex.Pattern;

/** The public face of the document, rules of LANGUAGE.md that can be seen from outside, and numbers out of all bounds. */
public final class FaceTest {
    private static final Set<String> FACE = Set.of("write(1)", "wipe(0)", "fault(0)", "lay(0)", "letter(3)", "hear(3)",
        "draws(1)", "slot(1)", "undo(0)", "station(2)", "letterOf(3)", "overheard(3)", "pair(2)", "draw(2)", "took(2)",
        "ahead(2)", "soon(0)", "count(1)");
    private static final Pattern NOT_ALLOWED = Pattern.compile(
        "\\b(throw|throws|try|catch|synchronized|assert|import|package|protected|volatile|transient|native|Exact"
            + "|System\\.(?!arraycopy\\b)\\w+|Math\\.\\w+Exact)\\b|->|::");

    private FaceTest() {
    }

    public static void main(String[] args) throws IOException {
        faceIsThatOfTheDocument();
        nestedClassesKeepToTheRules();
        sourceHasNothingThatIsNotAllowed();
        numbersOutOfAllBounds();
        Check.finish("FaceTest");
    }

    private static void yes(String what, boolean is) {
        Check.due(what, is ? 1 : 0, 1);
    }

    private static void faceIsThatOfTheDocument() {
        Check.due("BAD", HeardSlots.BAD, -1);
        Check.due("NO", HeardSlots.NO, -2);
        Check.due("FULL", HeardSlots.FULL, -3);
        Check.due("NONE", HeardSlots.NONE, -4);
        Set<String> seen = new TreeSet<>();
        for (Method m : HeardSlots.class.getDeclaredMethods()) {
            boolean isPublic = Modifier.isPublic(m.getModifiers());
            yes(m + " is public or private", isPublic || Modifier.isPrivate(m.getModifiers()));
            if (isPublic) {
                seen.add(m.getName() + "(" + m.getParameterCount() + ")");
                yes(m + " answers an int", m.getReturnType() == int.class);
            }
        }
        yes("the methods are those of the document: " + seen, seen.equals(FACE));
        int constants = 0;
        for (Field f : HeardSlots.class.getDeclaredFields()) {
            boolean isPublic = Modifier.isPublic(f.getModifiers());
            constants += isPublic ? 1 : 0;
            yes(f + " is public or private", isPublic || Modifier.isPrivate(f.getModifiers()));
        }
        Check.due("public constants", constants, 4);
        Check.due("constructors", HeardSlots.class.getDeclaredConstructors().length, 1);
        yes("the class is final", Modifier.isFinal(HeardSlots.class.getModifiers()));
    }

    private static void nestedClassesKeepToTheRules() {
        Class<?>[] nested = HeardSlots.class.getDeclaredClasses();
        yes("at most some twelve classes", nested.length <= 11);
        for (Class<?> c : nested) {
            yes(c + " is static", Modifier.isStatic(c.getModifiers()));
            yes(c + " is not public", !Modifier.isPublic(c.getModifiers()));
            int fields = 0;
            for (Field f : c.getDeclaredFields()) {
                boolean isStatic = Modifier.isStatic(f.getModifiers());
                fields += isStatic ? 0 : 1;
                yes(f + " is final if static", !isStatic || Modifier.isFinal(f.getModifiers()));
            }
            yes(c + " has at most some twenty fields", fields <= 20);
            for (Method m : c.getDeclaredMethods()) {
                yes(m + " takes at most seven", m.getParameterCount() <= 7);
                yes(m + " bears no public name", FACE.stream().noneMatch(f -> f.startsWith(m.getName() + "(")));
            }
        }
    }

    private static void sourceHasNothingThatIsNotAllowed() throws IOException {
        String source = Files.readString(Path.of("src/main/java/HeardSlots.java"));
        String code = source.replaceAll("(?s)/\\*.*?\\*/", "").replaceAll("//.*", "").replaceAll("\"[^\"]*\"", "\"\"");
        Matcher m = NOT_ALLOWED.matcher(code);
        while (m.find()) {
            yes("not allowed: " + m.group(), false);
        }
        yes("signs are ASCII", source.chars().allMatch(c -> c == '\n' || c >= 32 && c < 127));
    }

    private static final int[] WILD = {Integer.MIN_VALUE, Integer.MIN_VALUE + 1, -65536, -7, -1, 100000, 65536,
        Integer.MAX_VALUE - 1, Integer.MAX_VALUE};

    private static void numbersOutOfAllBounds() {
        HeardSlots x = new HeardSlots();
        x.slot(20);
        int[] before = Check.counts(x);
        for (int a : WILD) {
            isBad("one number " + a, x.write(a), x.draws(a), x.slot(a), x.count(a), x.ahead(a, 0), x.ahead(1, a));
            isBad("took " + a, x.took(a, 0), x.took(1, a));
            isBad("letter " + a, x.letter(a, 1, 1), x.letter(0, a, 1), x.letter(0, 1, a), x.letter(a, a, a));
            isBad("hear " + a, x.hear(a, 1, 1), x.hear(0, a, 1), x.hear(0, 1, a), x.hear(a, a, a));
            isBad("station " + a, x.station(a, 0), x.station(0, a), x.pair(a, 0), x.pair(0, a), x.pair(a, a));
            isBad("draw " + a, x.draw(a, 0), x.draw(0, a));
            isBad("rows " + a, x.letterOf(a, 0, 0), x.letterOf(0, 0, a), x.overheard(a, 0, 0), x.overheard(0, 0, a));
            int beyond = a < 0 ? HeardSlots.BAD : HeardSlots.NONE;
            Check.due("letterOf(0, " + a + ", 0)", x.letterOf(0, a, 0), beyond);
            Check.due("overheard(0, " + a + ", 0)", x.overheard(0, a, 0), beyond);
        }
        Check.dueAll("nothing changes by it", Check.counts(x), before);
    }

    private static void isBad(String what, int... answers) {
        for (int k = 0; k < answers.length; k++) {
            Check.due(what + " [" + k + "]", answers[k], HeardSlots.BAD);
        }
    }
}
