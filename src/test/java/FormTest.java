import java.io.IOException;
import java.lang.reflect.Constructor;
import java.lang.reflect.Field;
import java.lang.reflect.Method;
import java.lang.reflect.Modifier;
import java.nio.file.Files;
import java.nio.file.Path;
import java.util.Set;
import java.util.TreeSet;

/** The face of the class, and rules of LANGUAGE.md that can be seen without running it. */
public final class FormTest {
    private static final Due due = new Due("FormTest");
    private static final Set<String> CONSTANTS = Set.of("INVALID_ARGUMENT", "NOT_POSSIBLE",
        "LIMIT_REACHED", "NOT_FOUND", "STALE");
    private static final Set<String> FACE = Set.of("acquire(int)", "use(int)", "release(int)",
        "follow(int)", "nameOf(int)", "why(int)", "put(int,int,int)", "clear(int,int)",
        "cellOf(int,int)", "compact(int)", "numberOf(int,int)", "find(int)", "nameAt(int,int)",
        "beginning(int)", "behind(int)", "wouldBe(int,int)", "compaction(int,int)", "count(int)",
        "undo()", "type(int)", "clearText()", "fault(int)", "play()");
    private static final String[] FORBIDDEN = {"\\bthrow\\b", "\\bthrows\\b", "\\btry\\b",
        "\\bcatch\\b", "\\bfinally\\b", "\\bsynchronized\\b", "\\bassert\\b", "->", "::",
        "Exact\\(", "\\bimport (?!java\\.util\\.Arrays;)", "\\bSystem\\.(?!arraycopy)",
        "\\bwhile *\\( *true", "\\bpackage\\b", "\\bprotected\\b"};

    public static void main(String[] args) throws IOException {
        constants();
        members();
        classesInside();
        source(Files.readString(Path.of(args[0])));
        due.end();
    }

    private static void constants() {
        due.is("INVALID_ARGUMENT", NameRolls.INVALID_ARGUMENT, -1000001);
        due.is("NOT_POSSIBLE", NameRolls.NOT_POSSIBLE, -1000002);
        due.is("LIMIT_REACHED", NameRolls.LIMIT_REACHED, -1000003);
        due.is("NOT_FOUND", NameRolls.NOT_FOUND, -1000004);
        due.is("STALE", NameRolls.STALE, -1000005);
    }

    private static void yes(String what, boolean holds) {
        due.is(what, holds ? 1 : 0, 1);
    }

    private static void members() {
        int own = NameRolls.class.getModifiers();
        yes("public and final", Modifier.isPublic(own) && Modifier.isFinal(own));
        yes("a class of its own", NameRolls.class.getSuperclass() == Object.class);
        for (Field field : NameRolls.class.getDeclaredFields()) {
            boolean constant = CONSTANTS.contains(field.getName());
            int bits = field.getModifiers();
            yes(field + " in its place", constant ? bits == 25 : Modifier.isPrivate(bits));
            yes(field + ", static and final", !Modifier.isStatic(bits) || Modifier.isFinal(bits));
        }
        Set<String> open = new TreeSet<>();
        for (Method method : NameRolls.class.getDeclaredMethods()) {
            String name = method.toString().replaceAll(".*NameRolls\\.", "");
            if (method.getModifiers() == Modifier.PUBLIC && method.getReturnType() == int.class) {
                open.add(name);
            } else {
                yes(name + " is private", Modifier.isPrivate(method.getModifiers()));
                String plain = method.getName() + "(";
                yes(name + " has its own name", FACE.stream().noneMatch(f -> f.startsWith(plain)));
            }
        }
        yes("the face, not " + open, open.equals(FACE));
        Constructor<?>[] made = NameRolls.class.getDeclaredConstructors();
        yes("one public constructor", made.length == 1
            && made[0].getModifiers() == Modifier.PUBLIC && made[0].getParameterCount() == 0);
    }

    private static void classesInside() {
        Class<?>[] inside = NameRolls.class.getDeclaredClasses();
        yes("at most 12 classes", inside.length <= 12);
        for (Class<?> c : inside) {
            yes(c + " is static", Modifier.isStatic(c.getModifiers()));
            yes(c + " is not public", !Modifier.isPublic(c.getModifiers()));
            yes(c + ", its fields", c.getDeclaredFields().length <= 20);
            for (Method method : c.getDeclaredMethods()) {
                String plain = method.getName() + "(";
                yes(method + ", its name", FACE.stream().noneMatch(f -> f.startsWith(plain)));
            }
        }
    }

    private static void source(String whole) {
        String code = whole.replaceAll("/\\*(?s:.*?)\\*/|//[^\n]*|'(?:\\\\.|[^'])'", " ");
        for (String word : FORBIDDEN) {
            yes("no " + word, !code.matches("(?s).*(?:" + word + ").*"));
        }
        yes("no texts", code.indexOf('"') < 0);
        for (String line : code.split("\n")) {
            if (line.matches(".*\\bnew\\b.*")) {
                boolean row = line.matches("\\s*(private )?final [\\w\\[\\]]+ \\w+ = new .*;");
                boolean state = line.strip().equals("past[i] = new Roll();");
                yes("made in a constructor alone: " + line.strip(), row || state);
            }
        }
    }
}
