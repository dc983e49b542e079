import java.io.IOException;
import java.lang.reflect.Constructor;
import java.lang.reflect.Field;
import java.lang.reflect.Method;
import java.lang.reflect.Modifier;
import java.nio.file.Files;
import java.nio.file.Path;
import java.util.HashSet;
import java.util.List;
import java.util.Set;
import java.util.TreeSet;

/** The public face, and the rules of ../shared/LANGUAGE.md that can be seen in the classes, the source's text or its tree. */
public final class LanguageTests {
    private static final Path SOURCE = Path.of("src/main/java/StrangerVotes.java");
    private static final String[] FACE = {"type(int) int", "clear() int", "town() int", "train(int,int) int",
        "group(int,int) int", "votes(int,int) int", "hour() int", "holds(int) int", "canvasses(int,int) int",
        "fog(int) int", "rugs(int) int", "undo() int", "now(int) int", "plan(int,int) int", "power(int) int",
        "laws(int) int", "odds(int,int,int) int", "hears(int,int) int", "forget() int", "likings(int) int",
        "ask() int", "mark(int,int) int", "keep(int) int", "back(int) int", "count(int) int", "trace() long"};
    private static final String[] CONSTANTS = {"BAD", "STATE", "FULL", "NONE", "NO"};
    private static final Due due = new Due();

    public static void main(String[] args) throws IOException {
        face();
        classesInside();
        source(Files.readString(SOURCE));
        tree();
        due.end();
    }

    private static void face() {
        due.part("the face");
        Class<?> type = StrangerVotes.class;
        due.holds("the class is public and final",
            Modifier.isPublic(type.getModifiers()) && Modifier.isFinal(type.getModifiers()));
        Set<String> open = new TreeSet<>();
        Set<String> names = new HashSet<>();
        for (Method method : type.getDeclaredMethods()) {
            if (Modifier.isPrivate(method.getModifiers()) || method.isSynthetic()) continue;
            open.add(method.toString());
            names.add(method.getName());
        }
        for (String row : FACE) {
            String want = "public " + row.substring(row.indexOf(' ') + 1) + " StrangerVotes."
                + row.substring(0, row.indexOf(' '));
            due.holds("has " + want, open.remove(want));
        }
        due.holds("no other open method: " + open, open.isEmpty());
        for (Method method : type.getDeclaredMethods()) {
            due.holds("a private method bears the name of a public one: " + method,
                !Modifier.isPrivate(method.getModifiers()) || !names.contains(method.getName()));
        }
        Constructor<?>[] constructors = type.getDeclaredConstructors();
        due.holds("one public constructor without parameters", constructors.length == 1
            && Modifier.isPublic(constructors[0].getModifiers()) && constructors[0].getParameterCount() == 0);
        fields(type);
    }

    private static void fields(Class<?> type) {
        Set<String> constants = new TreeSet<>(Set.of(CONSTANTS));
        for (Field field : type.getDeclaredFields()) {
            if (Modifier.isPrivate(field.getModifiers()) || field.isSynthetic()) continue;
            due.holds("a public constant of the document: " + field, constants.remove(field.getName())
                && field.toString().startsWith("public static final int "));
        }
        due.holds("has constants " + constants, constants.isEmpty());
    }

    private static void classesInside() {
        due.part("classes inside");
        Class<?>[] inside = StrangerVotes.class.getDeclaredClasses();
        due.holds("at most 12 classes", inside.length + 1 <= 12);
        ownFields(StrangerVotes.class);
        for (Class<?> one : inside) {
            due.holds("static: " + one, Modifier.isStatic(one.getModifiers()));
            due.holds("not public or protected: " + one,
                !Modifier.isPublic(one.getModifiers()) && !Modifier.isProtected(one.getModifiers()));
            ownFields(one);
        }
    }

    private static void ownFields(Class<?> one) {
        int fields = 0;
        for (Field field : one.getDeclaredFields()) {
            if (!Modifier.isStatic(field.getModifiers())) fields++;
            else due.holds("a static field is final: " + field, Modifier.isFinal(field.getModifiers()));
        }
        due.holds("at most 20 fields: " + one, fields <= 20);
        for (Method method : one.getDeclaredMethods()) {
            due.holds("at most 7 parameters: " + method, method.getParameterCount() <= 7);
        }
    }

    private static void source(String source) {
        due.part("the source");
        due.holds("signs 1 .. 127 alone", source.chars().allMatch(c -> c > 0 && c < 128));
        due.holds("no package line", !source.startsWith("package ") && !source.contains("\npackage "));
        due.holds("no import but of lists and arrays",
            source.lines().filter(line -> line.startsWith("import ")).allMatch(line -> line.matches(
                "import java\\.util\\.(ArrayList|List|Arrays|Iterator);")));
    }

    private static void tree() throws IOException {
        due.part("the tree");
        LanguageScan scan = LanguageScan.of(SOURCE);
        for (String fault : scan.faults) due.holds(fault, false);
        due.holds("methods are found", scan.methods > FACE.length);
        List<String> deepest = scan.deepestCalls();
        due.holds("rule 11: calls go at most eight deep: " + deepest, deepest.size() <= 8);
    }
}
