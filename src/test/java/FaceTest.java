import java.io.IOException;
import java.lang.reflect.Constructor;
import java.lang.reflect.Field;
import java.lang.reflect.Method;
import java.lang.reflect.Modifier;
import java.nio.file.Files;
import java.nio.file.Path;
import java.util.Arrays;
import java.util.Set;
import java.util.TreeSet;

/** The public face is the document's, and the file keeps to what LANGUAGE.md lets a scan see. */
public final class FaceTest {
    private static final Due due = new Due("FaceTest");

    private static final String[] METHODS = {
        "int house(int, int)", "int share(int, int, int)", "int ask(int, int)", "int set(int, int, int)",
        "int purse(int)", "int told(int, int)", "int type(long, int)", "int town()", "int count(int)",
        "long rent(int, int)", "long moves(int, int, int)", "long walk(int, int)",
        "long change(int, int, int, int, int)", "long pulled(int, int, int)", "int year()", "int near(int)",
        "long income(int, int)", "int best(int)", "int rests(int, int, int)", "int bought(int, int, int)",
        "int image()", "int restore()", "int book(int, int, int)", "int film(int, int, int)",
        "int sheet(int, int, int)", "int drop(int)", "int item(int, int, int, long)",
        "int copy(int, int, int, int, int)"};

    private static final String[] CONSTANTS = {
        "BAD -1", "NOT -2", "FULL -3", "NONE -4", "NULL -11", "CAST -12", "INDEX -13", "SIZE -14"};

    private static final String[] LEFT_OUT = {
        "import ", "package ", "->", "::", "try", "catch", "finally", "throw", "synchronized", "assert",
        "Exact(", "float", "double", "Object", "Random", "System.out", "System.nano", "System.current",
        "Thread", "@", "static {", "hashCode", "toString", "enum ", "var "};

    public static void main(String[] args) throws IOException, IllegalAccessException {
        publicMethods();
        publicConstants();
        constructors();
        ownNames();
        classesInside();
        source();
        due.end();
    }

    private static String signature(Method m) {
        StringBuilder text = new StringBuilder(m.getReturnType().getName() + " " + m.getName() + "(");
        for (Class<?> type : m.getParameterTypes()) {
            text.append(text.charAt(text.length() - 1) == '(' ? "" : ", ").append(type.getName());
        }
        return text.append(")").toString();
    }

    private static void publicMethods() {
        Set<String> got = new TreeSet<>();
        for (Method m : MeanTown.class.getDeclaredMethods()) {
            if (!Modifier.isPrivate(m.getModifiers())) {
                got.add(signature(m));
                due.holds(m.getName() + " is public, of an object", Modifier.isPublic(m.getModifiers())
                        && !Modifier.isStatic(m.getModifiers()));
                due.is(m.getName() + " declares exceptions", m.getExceptionTypes().length, 0);
            }
        }
        due.is("methods", METHODS.length, 28);
        due.holds("the methods are the document's: " + got, got.equals(new TreeSet<>(Arrays.asList(METHODS))));
    }

    private static void publicConstants() throws IllegalAccessException {
        Set<String> got = new TreeSet<>();
        for (Field f : MeanTown.class.getDeclaredFields()) {
            if (!Modifier.isPrivate(f.getModifiers())) {
                due.holds(f.getName() + " is an int", f.getType() == int.class);
                due.is(f.getName() + "'s modifiers", f.getModifiers(),
                        Modifier.PUBLIC | Modifier.STATIC | Modifier.FINAL);
                got.add(f.getName() + " " + f.getInt(null));
            }
        }
        due.holds("the constants are the document's: " + got, got.equals(new TreeSet<>(Arrays.asList(CONSTANTS))));
    }

    private static void constructors() {
        Constructor<?>[] all = MeanTown.class.getDeclaredConstructors();
        due.is("constructors", all.length, 1);
        due.is("its parameters", all[0].getParameterCount(), 0);
        due.holds("it is public", Modifier.isPublic(all[0].getModifiers()));
        due.is("the class's modifiers", MeanTown.class.getModifiers(), Modifier.PUBLIC | Modifier.FINAL);
    }

    private static Set<String> faceNames() {
        Set<String> names = new TreeSet<>();
        for (String method : METHODS) {
            names.add(method.substring(method.indexOf(' ') + 1, method.indexOf('(')));
        }
        return names;
    }

    private static void ownNames() {
        Set<String> names = faceNames();
        for (Method m : MeanTown.class.getDeclaredMethods()) {
            if (Modifier.isPrivate(m.getModifiers())) {
                due.holds("private " + m.getName() + " has a name of its own", !names.contains(m.getName()));
            }
        }
        for (Class<?> inside : MeanTown.class.getDeclaredClasses()) {
            for (Method m : inside.getDeclaredMethods()) {
                due.holds("inner " + m.getName() + " has a name of its own", !names.contains(m.getName()));
            }
        }
    }

    private static void classesInside() {
        Class<?>[] inside = MeanTown.class.getDeclaredClasses();
        due.holds("at most 12 classes", inside.length + 1 <= 12);
        for (Class<?> c : inside) {
            due.holds(c + " is static", Modifier.isStatic(c.getModifiers()));
            due.holds(c + " is not public", !Modifier.isPublic(c.getModifiers()));
            fewFields(c);
            fewParameters(c);
        }
        fewFields(MeanTown.class);
        fewParameters(MeanTown.class);
    }

    private static void fewFields(Class<?> c) {
        int fields = 0;
        for (Field f : c.getDeclaredFields()) {
            if (Modifier.isStatic(f.getModifiers())) {
                due.holds(f + " is final", Modifier.isFinal(f.getModifiers()));
            } else {
                fields++;
            }
        }
        due.holds(c + " has at most 20 fields", fields <= 20);
    }

    private static void fewParameters(Class<?> c) {
        for (Method m : c.getDeclaredMethods()) {
            due.holds(m + " takes at most 7", m.getParameterCount() <= 7);
        }
    }

    private static void source() throws IOException {
        Path file = Path.of(System.getProperty("project", "."), "src/main/java/MeanTown.java");
        String text = Files.readString(file);
        String code = text.replaceAll("(?s)/\\*.*?\\*/", "").replaceAll("//[^\n]*", "");
        for (String word : LEFT_OUT) {
            due.holds("the code has no '" + word + "'", !code.contains(word));
        }
        int length = 0;
        for (String line : text.split("\n")) {
            length = line.isEmpty() ? 0 : length + 1;
            due.holds("no stretch is over 60 lines: " + line, length <= 60);
            due.holds("only signs 1 to 127: " + line, line.chars().allMatch(c -> c > 0 && c < 128));
        }
    }
}
