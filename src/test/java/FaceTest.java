import java.lang.reflect.Constructor;
import java.lang.reflect.Field;
import java.lang.reflect.Method;
import java.lang.reflect.Modifier;
import java.nio.file.Files;
import java.nio.file.Path;
import java.util.ArrayList;
import java.util.Arrays;
import java.util.List;
import java.util.TreeSet;

/** The class has the document's face and no more, and its text keeps the rules that a text search can see. */
public final class FaceTest {
    private static final String[] FACE = {
        "boolean bar(int,int,boolean)", "int beginner()", "int block(int,int)", "int blocks()",
        "boolean chance(int,int,int)", "int change(int)", "boolean clear()", "boolean confirm(int,int)",
        "int draw(int,int,int)", "int elder(int)", "int elderOf(int)", "boolean gain(int,int,int)",
        "int goal(int,int,int)", "int goalAt(int,int)", "int has(int)", "boolean lasts(int)",
        "boolean like(int,int,boolean,int)", "long lower()", "int meeting(int,int)", "int met(int,int,int)",
        "int pair()", "boolean places(int,int)", "boolean pour(int,int,int,int,int)", "long read(int,int)",
        "boolean run(int,boolean)", "int status()", "boolean tell(int,boolean,int)",
        "boolean tray(int,int,int)", "long upper()", "boolean write(int,int,long)",
    };
    private static final String[] FORBIDDEN_WORDS = {
        "throw", "throws", "try", "catch", "finally", "synchronized", "assert", "protected", "native",
        "volatile", "transient", "System.out", "System.err", "System.exit", "HashMap", "Random", "Object",
    };

    private static int wrong = 0;

    private static void require(boolean holds, String what) {
        if (!holds) {
            wrong++;
            System.out.println("not so: " + what);
        }
    }

    public static void main(String[] args) throws Exception {
        checkFace();
        checkText();
        System.out.println(wrong == 0 ? "the face is as due" : wrong + " faults");
        if (wrong != 0) {
            System.exit(1);
        }
    }

    private static void checkFace() throws Exception {
        Class<?> type = MentorPairs.class;
        require(Modifier.isPublic(type.getModifiers()) && Modifier.isFinal(type.getModifiers()), "public final class");
        TreeSet<String> publics = new TreeSet<>();
        TreeSet<String> publicNames = new TreeSet<>();
        for (Method m : type.getDeclaredMethods()) {
            if (Modifier.isPublic(m.getModifiers())) {
                publics.add(signature(m));
                publicNames.add(m.getName());
                require(!Modifier.isStatic(m.getModifiers()), m.getName() + " is a method of an object");
            } else {
                require(Modifier.isPrivate(m.getModifiers()), m.getName() + " is private");
            }
        }
        require(publics.equals(new TreeSet<>(Arrays.asList(FACE))), "methods are those of the document, not " + publics);
        for (Field f : type.getDeclaredFields()) {
            boolean isNone = f.getName().equals("NONE");
            require(isNone == Modifier.isPublic(f.getModifiers()), f.getName() + " is seen as it should be");
            require(isNone || Modifier.isPrivate(f.getModifiers()), f.getName() + " is private");
            require(!Modifier.isStatic(f.getModifiers()) || Modifier.isFinal(f.getModifiers()), f.getName() + " is final");
        }
        Field none = type.getField("NONE");
        require(none.getType() == int.class && none.getInt(null) == -1, "NONE is the int -1");
        Constructor<?>[] made = type.getDeclaredConstructors();
        require(made.length == 1 && Modifier.isPublic(made[0].getModifiers()) && made[0].getParameterCount() == 0, "one constructor");
        checkNested(type, publicNames);
    }

    private static void checkNested(Class<?> type, TreeSet<String> publicNames) {
        require(type.getDeclaredClasses().length <= 12, "at most twelve classes");
        for (Class<?> nested : type.getDeclaredClasses()) {
            require(Modifier.isStatic(nested.getModifiers()), nested + " is static");
            checkSize(nested);
            for (Method m : nested.getDeclaredMethods()) {
                require(!publicNames.contains(m.getName()), m + " bears a name of its own");
            }
        }
        checkSize(type);
        for (Method m : type.getDeclaredMethods()) {
            require(Modifier.isPublic(m.getModifiers()) || !publicNames.contains(m.getName()), m + " bears a name of its own");
        }
    }

    private static void checkSize(Class<?> type) {
        int fields = 0;
        for (Field f : type.getDeclaredFields()) {
            fields += Modifier.isStatic(f.getModifiers()) ? 0 : 1;
        }
        require(fields <= 20, type + " has at most twenty fields");
        for (Method m : type.getDeclaredMethods()) {
            require(m.getParameterCount() <= 7, m + " has at most seven parameters");
        }
    }

    private static String signature(Method m) {
        List<String> parts = new ArrayList<>();
        for (Class<?> p : m.getParameterTypes()) {
            parts.add(p.getName());
        }
        return m.getReturnType().getName() + " " + m.getName() + "(" + String.join(",", parts) + ")";
    }

    private static void checkText() throws Exception {
        String text = Files.readString(Path.of("src/main/java/MentorPairs.java"));
        String code = text.replaceAll("(?s)/\\*.*?\\*/", "").replaceAll("//[^\n]*", "");
        for (String word : FORBIDDEN_WORDS) {
            boolean stands = java.util.regex.Pattern.compile("\\b" + java.util.regex.Pattern.quote(word) + "\\b").matcher(code).find();
            require(!stands, "the program is without " + word);
        }
        require(!code.contains("->") && !code.contains("::"), "no lambda, no method reference");
        require(!code.contains("package "), "no package line");
        require(!code.contains("Exact("), "none of the functions whose name ends in Exact");
        for (String line : code.split("\n")) {
            require(!line.startsWith("import ") || line.equals("import java.util.Arrays;"), "only Arrays is taken from the library: " + line);
            require(!line.matches(".*\\b(new|copyOf|copyOfRange|clone)\\b.*") || isMadeWithTheObject(line), "no call makes an object: " + line);
        }
    }

    // All calls of a run live in one room, so whatever is made is made once, with the object.
    private static boolean isMadeWithTheObject(String line) {
        return line.matches(" +private final [\\w\\[\\]]+ \\w+ = new [^;]*;") || line.trim().equals("trays[t] = new Tray();");
    }
}
