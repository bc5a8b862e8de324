import java.io.IOException;
import java.lang.reflect.Constructor;
import java.lang.reflect.Field;
import java.lang.reflect.Member;
import java.lang.reflect.Method;
import java.lang.reflect.Modifier;
import java.nio.file.Files;
import java.nio.file.Path;
import java.util.ArrayList;
import java.util.Arrays;
import java.util.List;
import java.util.Random;
import java.util.Set;
import java.util.TreeSet;
import java.util.regex.Pattern;

/** The face, and those rules of LANGUAGE.md that can be looked at from outside. */
public final class LanguageTest {
    private static final String ARGUMENT = "java.lang.IllegalArgumentException";
    private static final String STATE = "java.lang.IllegalStateException";
    private static final String INDEX = "java.lang.IndexOutOfBoundsException";
    private static final String UNSUPPORTED = "java.lang.UnsupportedOperationException";

    private static final List<String> FACE = List.of(
        face("int", "record(int,int,int,int,int,int)", ARGUMENT, STATE),
        face("int", "sift()", STATE),
        face("int", "length()"),
        face("int", "sample(long,int)", STATE, ARGUMENT),
        face("int", "sampled(int)"),
        face("int", "start(int,long)", STATE, ARGUMENT),
        face("int", "letter(int,int)", ARGUMENT, INDEX, STATE),
        face("int", "told(int,int)"),
        face("int", "tick()", STATE),
        face("boolean", "done()"),
        face("int", "pass()"),
        face("int", "disclosed()"),
        face("int", "answered(int)"),
        face("int", "bit(int,int)", STATE, INDEX),
        face("int", "item(int,int)", STATE, INDEX),
        face("int", "tag(int,int)", STATE, ARGUMENT),
        face("int", "shorten(long,int,int)", STATE, ARGUMENT, UNSUPPORTED),
        face("int", "key(int,int)", INDEX));

    private static final List<String> FORBIDDEN = List.of("->", "::", "\\bsynchronized\\b", "\\bassert\\b",
        "\\bfinally\\b", "\\btry\\b", "\\bpackage\\b", "\\bSystem\\.(?!arraycopy)", "\\w+Exact\\(",
        "\\b(Random|Thread|File|Files|Instant|Map|HashMap|Set|Stream|Optional)\\b", "import (?!java\\.util\\.Arrays;)");

    private static final Check CHECK = new Check();

    private LanguageTest() {
    }

    public static void main(String[] args) throws IOException {
        theFace();
        theConstants();
        nothingElseIsVisible();
        theClassesInside();
        noForbiddenWords();
        noCallThrowsByItself();
        CHECK.end();
    }

    private static String face(String type, String call, String... thrown) {
        String behind = thrown.length == 0 ? "" : " throws " + String.join(",", thrown);
        return "public " + type + " KeyDistiller." + call + behind;
    }

    private static List<Class<?>> allClasses() {
        List<Class<?>> all = new ArrayList<>(List.of(KeyDistiller.class));
        all.addAll(Arrays.asList(KeyDistiller.class.getDeclaredClasses()));
        return all;
    }

    private static void theFace() {
        Set<String> got = new TreeSet<>();
        for (Method method : KeyDistiller.class.getDeclaredMethods()) {
            if (Modifier.isPublic(method.getModifiers())) {
                got.add(method.toGenericString());
            }
        }
        CHECK.due("public methods", got.toString(), new TreeSet<>(FACE).toString());
        CHECK.due("class", Modifier.toString(KeyDistiller.class.getModifiers()), "public final");
        Constructor<?>[] constructors = KeyDistiller.class.getDeclaredConstructors();
        CHECK.due("constructors", Arrays.toString(constructors), "[public KeyDistiller()]");
    }

    private static void theConstants() {
        List<String> got = new ArrayList<>();
        for (Field field : KeyDistiller.class.getFields()) {
            got.add(field.toString());
        }
        CHECK.due("public fields", got.toString(), "[public static final int KeyDistiller.NONE]");
        for (Class<?> each : allClasses()) {
            for (Field field : each.getDeclaredFields()) {
                boolean isRight = !Modifier.isStatic(field.getModifiers()) || Modifier.isFinal(field.getModifiers());
                CHECK.holds("static is final: " + field, isRight);
            }
        }
    }

    private static void nothingElseIsVisible() {
        List<Member> members = new ArrayList<>(Arrays.asList(KeyDistiller.class.getDeclaredMethods()));
        members.addAll(Arrays.asList(KeyDistiller.class.getDeclaredFields()));
        for (Member member : members) {
            int how = member.getModifiers();
            CHECK.holds("public or private: " + member, Modifier.isPublic(how) || Modifier.isPrivate(how));
        }
        for (Class<?> each : allClasses()) {
            for (Method method : each.getDeclaredMethods()) {
                boolean isFace = each == KeyDistiller.class && Modifier.isPublic(method.getModifiers());
                boolean isNamedAlike = FACE.stream().anyMatch(f -> f.contains("." + method.getName() + "("));
                CHECK.holds("not named as a public one: " + method, !isNamedAlike || isFace);
                CHECK.holds("parameters: " + method, method.getParameterCount() <= 7);
            }
        }
    }

    private static void theClassesInside() {
        CHECK.holds("at most twelve classes", allClasses().size() <= 12);
        for (Class<?> each : KeyDistiller.class.getDeclaredClasses()) {
            int how = each.getModifiers();
            boolean isRight = Modifier.isStatic(how) && !Modifier.isPublic(how) && !Modifier.isProtected(how);
            CHECK.holds("static and not public: " + each, isRight);
        }
        for (Class<?> each : allClasses()) {
            long fields = Arrays.stream(each.getDeclaredFields())
                .filter(f -> !Modifier.isStatic(f.getModifiers())).count();
            CHECK.holds("at most twenty fields: " + each, fields <= 20);
        }
    }

    private static void noForbiddenWords() throws IOException {
        String source = Files.readString(Path.of(System.getProperty("program")));
        String code = source.replaceAll("(?s)/\\*.*?\\*/", "")
            .replaceAll("//[^\\n]*", "").replaceAll("\"[^\"\\n]*\"", "\"\"");
        for (String word : FORBIDDEN) {
            CHECK.holds("not in the source: " + word, !Pattern.compile(word).matcher(code).find());
        }
    }

    /** The longest dialogues, beyond the calls that an object is promised for: they end, and nothing is thrown. */
    private static void noCallThrowsByItself() {
        for (int run = 0; run < 300; run++) {
            KeyDistiller x = noisy(new Random(run));
            x.start(4 + run % 125, run);
            CHECK.due("run " + run + " is done", 1, () -> {
                for (int i = 0; i < 5000 && x.told(0, 0) != KeyDistiller.NONE; i++) {
                    x.letter(0, 0);
                }
                return x.done() ? 1 : 0;
            });
        }
    }

    private static KeyDistiller noisy(Random random) {
        KeyDistiller x = new KeyDistiller();
        for (int from = 0; from < 128; from += 32) {
            x.record(0, from, 32, 0, random.nextInt(), 0);
            x.record(1, from, 32, 0, random.nextInt(), -1);
        }
        x.sift();
        return x;
    }
}
