import java.io.IOException;
import java.lang.reflect.Constructor;
import java.lang.reflect.Field;
import java.lang.reflect.Method;
import java.lang.reflect.Modifier;
import java.nio.file.Files;
import java.nio.file.Path;
import java.util.Arrays;
import java.util.Set;
import java.util.TreeSet;
import java.util.regex.Matcher;
import java.util.regex.Pattern;

/** The face of the class, and those rules of LANGUAGE.md that can be seen from outside or in the text. */
public final class FaceTest {
    private static final String[] FACE = {
        "int dive(int,int,int)", "int leave(int)", "int set(int,int)", "int close()", "int say(int)", "int wipe()",
        "int fault()", "int judge(int)", "int done()", "int behind(int,int)", "int then(int)", "int word(int,int)",
        "int votes(int,int,int)", "int falls()", "int speak(int,int,int,int)", "int laws(int,int,int,int)",
        "int power(int)", "int held(int,int)", "int hours(int,int)", "int orders(int,int)", "int seen(int,int,int)",
        "int forget()", "int whose()", "int alike(int)", "int filibuster(int,int,int)",
        "long breaks(int,int,int,int,int)", "int day(int,int,int)", "int image(int)", "int restore(int)",
        "int told(int)"
    };
    private static final String[] CONSTANTS = {
        "int NONE -6", "int UNKNOWN -1", "int OUTSIDE -2", "int STATE -3", "int FULL -4", "int NO -5",
        "long LOST -1000000000000000000"
    };
    /** What LANGUAGE.md rules out everywhere; what it leaves (a throw, a text, a list) is not barred here either. */
    private static final String[] BARRED = {
        "::", "(?m)^(?!\\s*(case|default)\\b).*->", "\\bpackage\\b", "\\bfinally\\b", "\\bsynchronized\\b",
        "\\bassert\\b", "\\bprotected\\b", "\\bMath\\.\\w*Exact\\b", "\\bSystem\\.(?!arraycopy\\b)",
        "\\bThread\\b", "\\bimport (?!java\\.util\\.(List|ArrayList|Arrays|Iterator|NoSuchElementException|\\*);)",
        "\\bcatch \\([^)]*\\b(Throwable|Exception|Error|ArrayIndexOutOfBoundsException|NullPointerException"
            + "|ClassCastException|NegativeArraySizeException|ArrayStoreException)\\b"
    };

    private static int wrong = 0;

    private static void same(String what, Object got, Object due) {
        if (!got.equals(due)) {
            wrong++;
            System.out.println(what + ": is " + got + ", due is " + due);
        }
    }

    public static void main(String[] args) throws IOException, IllegalAccessException {
        face();
        constants();
        inside();
        text(Files.readString(Path.of(args[0])));
        System.out.println("FaceTest: " + wrong + " wrong");
        if (wrong != 0) {
            System.exit(1);
        }
    }

    private static void face() {
        Class<?> c = BubbleHouse.class;
        same("the class's modifiers", Modifier.toString(c.getModifiers()), "public final");
        Constructor<?>[] constructors = c.getDeclaredConstructors();
        same("constructors", constructors.length, 1);
        same("its modifiers", Modifier.toString(constructors[0].getModifiers()), "public");
        same("its parameters", constructors[0].getParameterCount(), 0);
        Set<String> open = new TreeSet<>();
        for (Method m : c.getDeclaredMethods()) {
            if (!Modifier.isPrivate(m.getModifiers())) {
                StringBuilder parameters = new StringBuilder();
                for (Class<?> p : m.getParameterTypes()) {
                    parameters.append(parameters.length() == 0 ? "" : ",").append(p.getName());
                }
                same("modifiers of " + m.getName(), Modifier.toString(m.getModifiers()), "public");
                open.add(m.getReturnType().getName() + " " + m.getName() + "(" + parameters + ")");
            }
        }
        same("methods", open, new TreeSet<>(Arrays.asList(FACE)));
    }

    private static void constants() throws IllegalAccessException {
        Set<String> open = new TreeSet<>();
        int fields = 0;
        for (Field f : BubbleHouse.class.getDeclaredFields()) {
            boolean fixed = Modifier.isStatic(f.getModifiers());
            fields += fixed ? 0 : 1;
            if (fixed) {
                same(f.getName() + " is final", Modifier.isFinal(f.getModifiers()), true);
            }
            if (!Modifier.isPrivate(f.getModifiers())) {
                same("modifiers of " + f.getName(), Modifier.toString(f.getModifiers()), "public static final");
                open.add(f.getType().getName() + " " + f.getName() + " " + f.get(null));
            }
        }
        same("constants", open, new TreeSet<>(Arrays.asList(CONSTANTS)));
        same("at most 20 fields", fields <= 20, true);
    }

    private static void inside() {
        Set<String> faceNames = new TreeSet<>();
        for (String method : FACE) {
            faceNames.add(method.substring(method.indexOf(' ') + 1, method.indexOf('(')));
        }
        Class<?>[] classes = BubbleHouse.class.getDeclaredClasses();
        same("at most 12 classes", classes.length < 12, true);
        for (Class<?> c : classes) {
            same(c.getName() + " is static", Modifier.isStatic(c.getModifiers()), true);
            same(c.getName() + " is not open", Modifier.isPublic(c.getModifiers()), false);
            for (Method m : c.getDeclaredMethods()) {
                hidesNoPublicName(m, faceNames);
                same(m.getName() + " has at most 7 parameters", m.getParameterCount() <= 7, true);
            }
        }
        for (Method m : BubbleHouse.class.getDeclaredMethods()) {
            hidesNoPublicName(m, faceNames);
        }
    }

    private static void hidesNoPublicName(Method m, Set<String> faceNames) {
        boolean hidden = Modifier.isPrivate(m.getModifiers());
        same(m + " hides a public name", hidden && faceNames.contains(m.getName()), false);
    }

    private static void text(String text) {
        String bare = text.replaceAll("(?s)/\\*.*?\\*/", "").replaceAll("//[^\n]*", "");
        for (int i = 0; i < bare.length(); i++) {
            if (bare.charAt(i) > 127) {
                same("a sign outside of a comment", (int) bare.charAt(i), "1 to 127");
            }
        }
        for (String barred : BARRED) {
            Matcher m = Pattern.compile(barred).matcher(bare);
            same("the text holds " + barred, m.find(), false);
        }
        int start = -1;
        int line = 0;
        for (String row : bare.split("\n", -1)) {
            line++;
            if (row.matches("( {4}| {8})\\w.*\\) \\{")) {
                start = line;
            }
            if (start >= 0 && row.matches("( {4}| {8})\\}")) {
                same("the method at line " + start + " is short", line - start < 70, true);
                start = -1;
            }
        }
    }
}
