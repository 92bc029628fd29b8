import java.lang.reflect.Constructor;
import java.lang.reflect.Field;
import java.lang.reflect.Method;
import java.lang.reflect.Modifier;
import java.nio.file.Files;
import java.nio.file.Path;
import java.util.Set;
import java.util.TreeSet;
import java.util.regex.Matcher;
import java.util.regex.Pattern;

/** The public face, and what can be seen of the language's rules from outside. */
public final class FaceTest {
    private static final Checks checks = new Checks();
    private static final Set<String> METHODS = Set.of("sheet(int,int,int)", "set(int,int,int)",
        "copy(int,int,int,int,int)", "drop(int)", "cast(int,int)", "chart(int)", "at(int)", "add(int,int)", "seen(int)",
        "point()", "drawing(int,int,int)", "feed(long,int)", "rules()", "fault()", "said(int)", "holds(int)",
        "record(int)", "worth(int,int)", "best()", "kind(int)", "as(int,int)", "ask(int,int)", "trace(int)",
        "count(int)", "status()");
    private static final Set<String> CONSTANTS = Set.of("NONE", "BAD", "STATE", "FULL");

    public static void main(String[] args) throws Exception {
        members();
        constants();
        nestedClasses();
        source();
        checks.end();
    }

    private static boolean isOpen(int modifiers) {
        return !Modifier.isPrivate(modifiers);
    }

    private static void members() {
        checks.isTrue("the class is public and final", Modifier.isPublic(SandDots.class.getModifiers())
            && Modifier.isFinal(SandDots.class.getModifiers()));
        Set<String> open = new TreeSet<>();
        for (Method method : SandDots.class.getDeclaredMethods()) {
            if (isOpen(method.getModifiers()) && !method.isSynthetic()) {
                String whole = method.toString();
                checks.isTrue(whole, whole.startsWith("public int SandDots."));
                open.add(whole.substring("public int SandDots.".length()));
            }
        }
        checks.isTrue("the public methods are " + open, open.equals(new TreeSet<>(METHODS)));
        Constructor<?>[] constructors = SandDots.class.getDeclaredConstructors();
        checks.due("constructors", constructors.length, 1);
        checks.isTrue("the constructor", constructors[0].toString().equals("public SandDots()"));
        Set<String> fields = new TreeSet<>();
        for (Field field : SandDots.class.getDeclaredFields()) {
            if (isOpen(field.getModifiers())) {
                checks.isTrue(field.toString(), field.toString().startsWith("public static final int "));
                fields.add(field.getName());
            }
        }
        checks.isTrue("the public fields are " + fields, fields.equals(new TreeSet<>(CONSTANTS)));
    }

    private static void constants() {
        checks.due("NONE", SandDots.NONE, -1000000);
        checks.due("BAD", SandDots.BAD, -1000001);
        checks.due("STATE", SandDots.STATE, -1000002);
        checks.due("FULL", SandDots.FULL, -1000003);
    }

    private static void nestedClasses() {
        Class<?>[] nested = SandDots.class.getDeclaredClasses();
        checks.isTrue("at most twelve classes", nested.length + 1 <= 12);
        for (Class<?> one : nested) {
            checks.isTrue(one + " is static", Modifier.isStatic(one.getModifiers()));
            checks.isTrue(one + " is not public", !Modifier.isPublic(one.getModifiers()));
            for (Field field : one.getDeclaredFields()) {
                checks.isTrue(field + " is final if static",
                    !Modifier.isStatic(field.getModifiers()) || Modifier.isFinal(field.getModifiers()));
            }
            for (Method method : one.getDeclaredMethods()) {
                String name = method.getName() + "(";
                checks.isTrue(method + " has a name of its own", METHODS.stream().noneMatch(open -> open.startsWith(name)));
                checks.isTrue(method + " has at most seven parameters", method.getParameterCount() <= 7);
            }
        }
    }

    private static void source() throws Exception {
        String source = Files.readString(Path.of(System.getProperty("source", "src/main/java/SandDots.java")));
        String code = source.replaceAll("(?s)/\\*.*?\\*/", "").replaceAll("//[^\n]*", "");
        Pattern refused = Pattern.compile("\\b(throw|throws|try|catch|synchronized|assert|import|package|Object|Exact|"
            + "hashCode|toString|Random|Thread|File|System\\.(?!arraycopy)\\w+)\\b|->|::");
        Matcher matcher = refused.matcher(code);
        while (matcher.find()) {
            checks.isTrue("the source has no " + matcher.group(), false);
        }
        checks.isTrue("the source was read", code.contains("public final class SandDots"));
        madeWithTheObject(code);
    }

    // All runs live in one room, so calls make nothing: fields and the constructor's row of sheets are all there is.
    private static void madeWithTheObject(String code) {
        for (String line : code.split("\n")) {
            if (line.matches(".*\\bnew\\b.*")) {
                checks.isTrue("made with the object: " + line.trim(),
                    line.matches("\\s+private (final )?[\\w\\[\\]]+ \\w+ = new .*|\\s+final int\\[\\] items = new .*")
                        || line.trim().equals("sheets[i] = new Sheet();"));
            }
        }
    }
}
