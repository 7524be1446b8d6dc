import java.io.IOException;
import java.lang.reflect.Constructor;
import java.lang.reflect.Field;
import java.lang.reflect.Method;
import java.lang.reflect.Modifier;
import java.nio.file.Files;
import java.nio.file.Path;
import java.util.Arrays;
import java.util.Set;
import java.util.TreeSet;
import java.util.regex.Pattern;

/** The face is the document's and no other, and the source keeps to the rules that a test can see. */
public final class FaceTest {
    private static final String SOURCE = "src/main/java/JuryTable.java";
    private static final String NO_SUCH = " throws NoSuchElementException";
    private static final String NO_SUCH_OR_ARGUMENT = NO_SUCH + ",IllegalArgumentException";

    private static final Set<String> FACE = Set.of(
            "int entry() throws IllegalStateException",
            "void mark(int,int,double)" + NO_SUCH,
            "void points(int,int,float)" + NO_SUCH,
            "void bar(int,double)" + NO_SUCH,
            "void line(int,float)" + NO_SUCH,
            "boolean clear(boolean,int,int)" + NO_SUCH,
            "boolean holds(boolean,int,int,int)" + NO_SUCH_OR_ARGUMENT,
            "int tally(boolean,int,int)" + NO_SUCH_OR_ARGUMENT,
            "int run(boolean,int,int,int)" + NO_SUCH_OR_ARGUMENT,
            "boolean keep(boolean,int,int,int)" + NO_SUCH_OR_ARGUMENT,
            "int kept(boolean,int,int)" + NO_SUCH,
            "int place(boolean,int,int,boolean)" + NO_SUCH,
            "int best(boolean,int,int)" + NO_SUCH_OR_ARGUMENT,
            "int against(boolean,int,int,int)" + NO_SUCH_OR_ARGUMENT,
            "long told(boolean,int,int)" + NO_SUCH + ",IllegalStateException",
            "long sum(boolean,int)" + NO_SUCH,
            "int count(int) throws IllegalArgumentException");

    private static final String[] RULED_OUT = {
        "\\btry\\b", "\\bcatch\\b", "\\bfinally\\b", "\\bassert\\b", "\\bsynchronized\\b", "->", "::",
        "\\bNaN\\b", "\\bMath\\b", "\\bDouble\\b", "\\bFloat\\b", "\\bSystem\\b", "\\bpackage\\b",
        "\\bstatic\\s*\\{"};

    private static int wrong = 0;

    public static void main(String[] args) throws IOException, IllegalAccessException {
        methods();
        fieldsAndConstructors();
        innerClasses();
        source();
        System.out.println(wrong == 0 ? "the face is as due" : wrong + " things are not as due");
        if (wrong != 0) {
            System.exit(1);
        }
    }

    private static void due(boolean so, String text) {
        if (!so) {
            wrong++;
            System.out.println(text);
        }
    }

    private static String names(Class<?>[] types) {
        return String.join(",", Arrays.stream(types).map(Class::getSimpleName).toList());
    }

    private static void methods() {
        Set<String> seen = new TreeSet<>();
        Set<String> publicNames = new TreeSet<>();
        for (Method m : JuryTable.class.getDeclaredMethods()) {
            if (!Modifier.isPrivate(m.getModifiers())) {
                publicNames.add(m.getName());
                seen.add(m.getReturnType().getSimpleName() + " " + m.getName() + "("
                        + names(m.getParameterTypes()) + ") throws " + names(m.getExceptionTypes()));
                due(m.getModifiers() == Modifier.PUBLIC, m + " is not plainly public");
            }
        }
        due(seen.equals(FACE), "the methods are " + seen + ", due are " + new TreeSet<>(FACE));
        for (Class<?> c : JuryTable.class.getDeclaredClasses()) {
            noSuchNames(c, publicNames);
        }
        noSuchNames(JuryTable.class, publicNames);
    }

    private static void noSuchNames(Class<?> c, Set<String> publicNames) {
        for (Method m : c.getDeclaredMethods()) {
            boolean hidden = c != JuryTable.class || Modifier.isPrivate(m.getModifiers());
            due(!hidden || !publicNames.contains(m.getName()), m + " bears the name of a public method");
            due(m.getParameterCount() <= 7, m + " takes too many parameters");
        }
    }

    private static void fieldsAndConstructors() throws IllegalAccessException {
        due(JuryTable.class.getModifiers() == (Modifier.PUBLIC | Modifier.FINAL), "the class is not public final");
        due(Arrays.stream(JuryTable.class.getDeclaredFields()).anyMatch(f -> f.getName().equals("NONE")),
                "there is no constant NONE");
        for (Field f : JuryTable.class.getDeclaredFields()) {
            if (f.getName().equals("NONE")) {
                constant(f);
            } else {
                due(Modifier.isPrivate(f.getModifiers()), f + " is not private");
            }
            staticIsFinal(f);
        }
        Constructor<?>[] all = JuryTable.class.getDeclaredConstructors();
        due(all.length == 1 && all[0].getParameterCount() == 0 && Modifier.isPublic(all[0].getModifiers()),
                "the constructors are " + Arrays.toString(all));
    }

    /** Read from the field, as the compiler writes the constant itself into those that use its name. */
    private static void constant(Field f) throws IllegalAccessException {
        due(f.getModifiers() == (Modifier.PUBLIC | Modifier.STATIC | Modifier.FINAL) && f.getType() == int.class,
                f + " is not a public constant of int");
        due(f.get(null).equals(-1), f + " is " + f.get(null) + ", due is -1");
    }

    private static void staticIsFinal(Field f) {
        due(!Modifier.isStatic(f.getModifiers()) || Modifier.isFinal(f.getModifiers()), f + " is not final");
    }

    private static void innerClasses() {
        for (Class<?> c : JuryTable.class.getDeclaredClasses()) {
            int m = c.getModifiers();
            due(Modifier.isStatic(m) && !Modifier.isPublic(m) && !Modifier.isProtected(m), c + " is seen outside");
            for (Field f : c.getDeclaredFields()) {
                staticIsFinal(f);
            }
        }
    }

    private static void source() throws IOException {
        String text = Files.readString(Path.of(SOURCE)).replaceAll("(?s)/\\*.*?\\*/", "").replaceAll("//.*", "");
        for (String pattern : RULED_OUT) {
            due(!Pattern.compile(pattern).matcher(text).find(), "the source has " + pattern);
        }
    }
}
