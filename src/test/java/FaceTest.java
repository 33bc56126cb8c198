import java.io.IOException;
import java.lang.reflect.Constructor;
import java.lang.reflect.Field;
import java.lang.reflect.Method;
import java.lang.reflect.Modifier;
import java.nio.file.Files;
import java.nio.file.Path;
import java.util.ArrayList;
import java.util.Arrays;
import java.util.List;
import java.util.TreeSet;
import java.util.regex.Matcher;
import java.util.regex.Pattern;

/** The document's face, and those rules of LANGUAGE.md that a look at the file can tell. */
public final class FaceTest {
    private static final Path SOURCE = Path.of("src/main/java/RustTiles.java");
    private static final String[] FACE = {
        "public int begin(int,int) IllegalArgumentException",
        "public int lay(int,int,int) IndexOutOfBoundsException,IllegalArgumentException",
        "public int draw()",
        "public int pass()",
        "public int oil(int) IndexOutOfBoundsException",
        "public int set(int) IllegalArgumentException",
        "public int append(int) IllegalArgumentException,IllegalStateException",
        "public int clearBuffer()",
        "public int firstError()",
        "public int run() IllegalArgumentException",
        "public int keep(int) IllegalArgumentException",
        "public int goBack(int) IllegalArgumentException,IllegalStateException",
        "public int undo() IllegalStateException",
        "public int tileOf(int,int) IndexOutOfBoundsException,IllegalArgumentException",
        "public int hand(int,int) IndexOutOfBoundsException,IllegalArgumentException",
        "public int stock(int) IllegalArgumentException",
        "public int playerOf(int,int) IndexOutOfBoundsException,IllegalArgumentException",
        "public int rowOf(int,int) IndexOutOfBoundsException,IllegalArgumentException",
        "public int count(int) IllegalArgumentException",
        "public int setting()",
        "public int whyNot(int,int,int) IndexOutOfBoundsException,IllegalArgumentException",
        "public int longest(int,int) IndexOutOfBoundsException,IllegalArgumentException",
        "public int whole(int,int,int) IndexOutOfBoundsException,IllegalArgumentException",
        "public int advice()",
        "public int commonest()",
        "public double rustShare()",
        "public long digest()",
    };
    private static final String[] FORBIDDEN = {"->", "::", "\\bfinally\\b", "\\bsynchronized\\b", "\\bassert\\b", "\\btry\\b",
        "\\bcatch\\b", "\\bfloat\\b", "\\bvar\\b", "\\bRandom\\b", "\\bThread\\b", "\\bSystem\\.(?!arraycopy\\()",
        "\\bMath\\.(?!min\\(|max\\()", "\\bInteger\\.(?!bitCount\\()", "\\bArrays\\.(?!fill\\()", "\\bDouble\\b", "\\bObject\\b",
        "\\bstatic\\s*\\{", "\\bpackage\\b", "\"\\s*\\+|\\+\\s*\""};

    private static final Checks checks = new Checks("FaceTest");

    public static void main(String[] args) throws IOException {
        members();
        constants();
        nestedClasses();
        source();
        checks.end();
    }

    private static void members() {
        TreeSet<String> names = new TreeSet<>();
        TreeSet<String> found = new TreeSet<>();
        for (Method method : RustTiles.class.getDeclaredMethods()) {
            if (!Modifier.isPrivate(method.getModifiers()) && !method.isSynthetic()) {
                found.add(told(method));
                names.add(method.getName());
            }
        }
        checks.due("methods", String.join("\n", new TreeSet<>(Arrays.asList(FACE))), String.join("\n", found));
        for (Class<?> nested : RustTiles.class.getDeclaredClasses()) {
            for (Method method : nested.getDeclaredMethods()) {
                checks.due(nested.getSimpleName() + "." + method.getName(), 0, names.contains(method.getName()) ? 1 : 0);
            }
        }
        for (Method method : RustTiles.class.getDeclaredMethods()) {
            boolean twice = Modifier.isPrivate(method.getModifiers()) && names.contains(method.getName());
            checks.due("private " + method.getName(), 0, twice ? 1 : 0);
        }
        Constructor<?>[] constructors = RustTiles.class.getDeclaredConstructors();
        checks.due("constructors", 1, constructors.length);
        checks.due("constructor", "public RustTiles()", constructors[0].toString());
    }

    private static String told(Method method) {
        List<String> types = new ArrayList<>();
        for (Class<?> type : method.getParameterTypes()) {
            types.add(type.getSimpleName());
        }
        List<String> kinds = new ArrayList<>();
        for (Class<?> kind : method.getExceptionTypes()) {
            kinds.add(kind.getSimpleName());
        }
        String text = Modifier.toString(method.getModifiers()) + " " + method.getReturnType().getSimpleName() + " "
            + method.getName() + "(" + String.join(",", types) + ") " + String.join(",", kinds);
        return text.trim();
    }

    private static void constants() {
        for (Field field : RustTiles.class.getDeclaredFields()) {
            dueHidden(field, !field.getName().equals("NONE"));
        }
        checks.due("NONE", -1, RustTiles.NONE);
        int modifiers = RustTiles.class.getModifiers();
        checks.due("the class", "public final", Modifier.toString(modifiers));
    }

    private static void dueHidden(Field field, boolean hidden) {
        checks.due(field.getName() + " is private", hidden ? 1 : 0, Modifier.isPrivate(field.getModifiers()) ? 1 : 0);
        boolean changing = Modifier.isStatic(field.getModifiers()) && !Modifier.isFinal(field.getModifiers());
        checks.due(field.getName() + " is no static state", 0, changing ? 1 : 0);
    }

    private static void nestedClasses() {
        Class<?>[] classes = RustTiles.class.getDeclaredClasses();
        checks.due("at most twelve classes", 1, classes.length <= 12 ? 1 : 0);
        for (Class<?> nested : classes) {
            checks.due(nested.getSimpleName(), "private static final", Modifier.toString(nested.getModifiers()));
            int fields = 0;
            for (Field field : nested.getDeclaredFields()) {
                fields += Modifier.isStatic(field.getModifiers()) ? 0 : 1;
            }
            checks.due("fields of " + nested.getSimpleName() + " at most twenty", 1, fields <= 20 ? 1 : 0);
            for (Method method : nested.getDeclaredMethods()) {
                checks.due("arguments of " + method.getName(), 1, method.getParameterCount() <= 7 ? 1 : 0);
            }
        }
    }

    private static void source() throws IOException {
        String code = Files.readString(SOURCE).replaceAll("(?s)/\\*.*?\\*/", "").replaceAll("//[^\n]*", "");
        for (String pattern : FORBIDDEN) {
            Matcher matcher = Pattern.compile(pattern).matcher(code);
            checks.due("forbidden " + pattern, "", matcher.find() ? "at " + matcher.start() + ": " + matcher.group() : "");
        }
        Matcher imports = Pattern.compile("import ([^;]*);").matcher(code);
        while (imports.find()) {
            checks.due("import", "java.util.Arrays", imports.group(1));
        }
        Matcher thrown = Pattern.compile("throw new (\\w+)\\(\"[a-z0-9 ]+\"\\)|throw\\b").matcher(code);
        while (thrown.find()) {
            checks.due("what is thrown at " + thrown.start(), 1, isListed(thrown.group(1)) ? 1 : 0);
        }
        for (int i = 0; i < code.length(); i++) {
            checks.due("sign at " + i, 1, code.charAt(i) < 128 ? 1 : 0);
        }
    }

    private static boolean isListed(String kind) {
        return "IllegalStateException".equals(kind) || "IllegalArgumentException".equals(kind)
            || "IndexOutOfBoundsException".equals(kind);
    }
}
