import java.lang.reflect.Constructor;
import java.lang.reflect.Field;
import java.lang.reflect.Method;
import java.lang.reflect.Modifier;
import java.nio.file.Files;
import java.nio.file.Path;
import java.util.Arrays;
import java.util.List;
import java.util.TreeSet;
import java.util.regex.Matcher;
import java.util.regex.Pattern;

/** The face of the document, and words that the language leaves out. */
public final class FaceTest {
    private static final String FACE = "machine4 drop0 set3 of2 taken2 step2 then3 film3 mix4 number1 expand4 period3 fraction2 "
            + "told2 build1 cycle2 linear2 twin3 compare1 windows3 runs3 replays3 search3 alike2 drawn3 chance6 feed6 text0 image0 "
            + "back0 load4 count1 sheet3 put3 copy5";
    private static final List<String> LONGS = List.of("number", "fraction", "told", "linear", "twin");
    private static final Pattern FORBIDDEN = Pattern.compile(
            "\\b(throw|throws|try|catch|synchronized|assert|import|package|protected|var|native|volatile|transient|strictfp)\\b"
            + "|->|::|Exact|hashCode|toString|System\\.(?!arraycopy)");

    private final Due due = new Due();

    public static void main(String[] args) throws Exception {
        FaceTest t = new FaceTest();
        t.methods();
        t.fields();
        t.nested();
        t.source(Files.readString(Path.of("src/main/java/CarryShifts.java")));
        t.due.end();
    }

    private void methods() {
        TreeSet<String> open = new TreeSet<>();
        TreeSet<String> names = new TreeSet<>();
        for (Method m : CarryShifts.class.getDeclaredMethods()) {
            if (Modifier.isPrivate(m.getModifiers())) {
                continue;
            }
            open.add(m.getName() + m.getParameterCount());
            names.add(m.getName());
            due.holds(m + " is public", Modifier.isPublic(m.getModifiers()) && !Modifier.isStatic(m.getModifiers()));
            due.holds(m + " answers as told", m.getReturnType() == (LONGS.contains(m.getName()) ? long.class : int.class));
            for (Class<?> p : m.getParameterTypes()) {
                due.holds(m + " takes ints", p == int.class);
            }
        }
        due.holds("methods are " + open, open.equals(new TreeSet<>(Arrays.asList(FACE.split(" ")))));
        for (Method m : CarryShifts.class.getDeclaredMethods()) {
            due.holds(m + " bears its own name", !Modifier.isPrivate(m.getModifiers()) || !names.contains(m.getName()));
        }
        for (Class<?> c : CarryShifts.class.getDeclaredClasses()) {
            for (Method m : c.getDeclaredMethods()) {
                due.holds(m + " bears its own name", !names.contains(m.getName()));
            }
        }
        Constructor<?>[] made = CarryShifts.class.getDeclaredConstructors();
        due.holds("one constructor", made.length == 1 && Modifier.isPublic(made[0].getModifiers()) && made[0].getParameterCount() == 0);
    }

    private void fields() throws Exception {
        TreeSet<String> open = new TreeSet<>();
        for (Field f : CarryShifts.class.getDeclaredFields()) {
            if (!Modifier.isPrivate(f.getModifiers())) {
                open.add(f.getName());
                due.holds(f + " is a constant", f.getModifiers() == (Modifier.PUBLIC | Modifier.STATIC | Modifier.FINAL));
            }
        }
        due.holds("constants are " + open, open.equals(new TreeSet<>(List.of("NONE", "BAD", "STATE", "FULL", "NO"))));
        due.is("NONE", CarryShifts.NONE, -1);
        due.is("BAD", CarryShifts.BAD, -2);
        due.is("STATE", CarryShifts.STATE, -3);
        due.is("FULL", CarryShifts.FULL, -4);
        due.is("NO", CarryShifts.NO, Long.MIN_VALUE);
        due.holds("public and final", CarryShifts.class.getModifiers() == (Modifier.PUBLIC | Modifier.FINAL));
    }

    private void nested() {
        Class<?>[] inside = CarryShifts.class.getDeclaredClasses();
        due.holds("at most twelve classes", inside.length <= 11);
        for (Class<?> c : inside) {
            due.holds(c + " is static and not open", Modifier.isStatic(c.getModifiers()) && !Modifier.isPublic(c.getModifiers())
                    && !Modifier.isProtected(c.getModifiers()));
        }
    }

    private void source(String source) {
        String code = source.replaceAll("(?s)/\\*.*?\\*/", "").replaceAll("//[^\n]*", "");
        Matcher found = FORBIDDEN.matcher(code);
        while (found.find()) {
            due.holds("the source has " + found.group(), false);
        }
    }
}
