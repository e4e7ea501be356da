import java.io.IOException;
import java.lang.reflect.Constructor;
import java.lang.reflect.Field;
import java.lang.reflect.Method;
import java.lang.reflect.Modifier;
import java.nio.file.Files;
import java.nio.file.Path;
import java.util.Arrays;
import java.util.HashSet;
import java.util.Set;
import java.util.TreeSet;

/** The document's public face, and the rules of LANGUAGE.md that a look at the class or its text can tell. */
public final class FaceTest {
    private static final Due due = new Due();
    private static final String[] METHODS = {
        "int count(int,int)", "int machine(int,int,int,int)", "int roller(int,int)", "int clear()",
        "long countAt(int,int)", "long period(int,int,int)", "int names(int,int,int)", "int cell(int,int)",
        "int draw(int,int,int,int,int)", "int empty(int)", "int at(int,int)", "int join(int,int)",
        "int stretch(int,int)", "int gather(int,int)", "int fault(int,int,int)", "long about(int,int)",
        "long wave(int,int)", "int greatest(int,int)", "int places(int,int,int,int,int)", "int cleared(int,int,int,int)",
        "int bale(int)", "int clearBales()", "int plan(int,int,int)", "int planAt(int,int)", "int tries()",
        "int many(int)", "long digest()"};
    private static final String[] CONSTANTS = {"NONE -1", "BAD -2", "NO -3", "FULL -4", "SPENT -5", "BEYOND -6"};
    private static final String[] BANNED = {"throw", "throws", "try", "catch", "synchronized", "assert", "import", "package", "protected",
        "native", "volatile", "transient", "System", "Object", "->", "::", "Exact("};

    public static void main(String[] args) throws IOException, IllegalAccessException {
        publicMethods();
        constants();
        classAndConstructor();
        classesInside();
        words();
        due.end();
    }

    private static String signature(Method m) {
        StringBuilder types = new StringBuilder();
        for (Class<?> type : m.getParameterTypes()) {
            types.append(types.length() == 0 ? "" : ",").append(type.getName());
        }
        return m.getReturnType().getName() + " " + m.getName() + "(" + types + ")";
    }

    private static void sameSet(String what, Set<String> got, String[] want) {
        Set<String> wanted = new TreeSet<>(Arrays.asList(want));
        due.holds(what + ": " + got + ", due is " + wanted, got.equals(wanted));
    }

    private static void publicMethods() {
        Set<String> open = new TreeSet<>();
        for (Method m : YarnMill.class.getDeclaredMethods()) {
            if (!Modifier.isPrivate(m.getModifiers())) {
                open.add(signature(m));
                due.holds(m + " is public and of the object", Modifier.isPublic(m.getModifiers()) && !Modifier.isStatic(m.getModifiers()));
            }
        }
        sameSet("the methods", open, METHODS);
    }

    private static void constants() throws IllegalAccessException {
        Set<String> open = new TreeSet<>();
        for (Field f : YarnMill.class.getDeclaredFields()) {
            if (!Modifier.isPrivate(f.getModifiers())) {
                due.holds(f + " is a constant", f.toString().startsWith("public static final int "));
                open.add(f.getName() + " " + f.getInt(null));
            }
        }
        sameSet("the constants", open, CONSTANTS);
    }

    private static void classAndConstructor() {
        due.holds("the class is public and final", YarnMill.class.getModifiers() == (Modifier.PUBLIC | Modifier.FINAL));
        Constructor<?>[] constructors = YarnMill.class.getDeclaredConstructors();
        due.is("constructors", constructors.length, 1);
        due.holds("public YarnMill()", constructors[0].toString().equals("public YarnMill()"));
    }

    private static void classesInside() {
        Set<String> faceNames = new HashSet<>();
        for (String signature : METHODS) {
            faceNames.add(signature.replaceAll(".* |\\(.*", ""));
        }
        Class<?>[] inside = YarnMill.class.getDeclaredClasses();
        due.holds("at most twelve classes", inside.length < 12);
        for (Class<?> c : inside) {
            due.holds(c + " is static", Modifier.isStatic(c.getModifiers()) && !Modifier.isPublic(c.getModifiers()));
            due.holds(c + " has at most twenty fields", c.getDeclaredFields().length <= 20);
            for (Field f : c.getDeclaredFields()) {
                due.holds(f + ": static ones are final", !Modifier.isStatic(f.getModifiers()) || Modifier.isFinal(f.getModifiers()));
            }
            for (Method m : c.getDeclaredMethods()) {
                due.holds(m + " has a name of its own", !faceNames.contains(m.getName()));
                due.holds(m + " takes at most seven", m.getParameterCount() <= 7);
            }
        }
    }

    private static void words() throws IOException {
        String text = Files.readString(Path.of("src/main/java/YarnMill.java"));
        String code = text.replaceAll("(?s)/\\*.*?\\*/", " ").replaceAll("//[^\n]*", " ");
        Set<String> words = new HashSet<>(Arrays.asList(code.split("[^A-Za-z0-9_>:-]+")));
        for (String banned : BANNED) {
            boolean isWord = banned.chars().allMatch(Character::isLetter);
            boolean found = isWord ? words.contains(banned) : code.contains(banned);
            due.holds("no '" + banned + "' in the text", !found);
        }
        due.holds("characters 0 to 255", text.chars().allMatch(c -> c < 256));
    }
}
