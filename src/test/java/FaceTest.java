import java.lang.reflect.Constructor;
import java.lang.reflect.Field;
import java.lang.reflect.Member;
import java.lang.reflect.Method;
import java.lang.reflect.Modifier;
import java.nio.file.Files;
import java.nio.file.Path;
import java.util.Arrays;
import java.util.Set;
import java.util.TreeSet;

/** The public face of the document, and those rules of LANGUAGE.md that a test can see. */
public final class FaceTest {
    private static final Due DUE = new Due();

    private static final String[] FACE = {
        "int corner(int,int)", "int polygon()", "int fault(int)", "int drop()", "int count(int)",
        "int at(int,int,int)", "int area(int)", "long centroid(int,int,int)", "int points(int,int)",
        "int in(int,int,int)", "int sees(int,int,int)", "int way(int,int,int)", "int step(int,int,int,int)",
        "int triangulations(int)", "int best(int)", "int triangle(int,int,int)", "int diagonal(int,int,int)",
        "int parts(int)", "int same(int,int)", "int onto(int,int)", "int symmetries(int,int)"};

    private static final String[] FORBIDDEN = {"import ", "package ", "->", "::", "catch", "finally", "synchronized",
        "assert", "protected", "Exact(", "Object", "double ", "float ", "static {", "System.out", "Integer.M", "Thread"};

    public static void main(String[] args) throws Exception {
        constants();
        members();
        nestedClasses();
        source();
        DUE.end();
    }

    private static void constants() {
        DUE.is("NONE", PolyCuts.NONE, -1);
        DUE.is("UNKNOWN", PolyCuts.UNKNOWN, -2);
        DUE.is("OUTSIDE", PolyCuts.OUTSIDE, -3);
        DUE.is("ROOM", PolyCuts.ROOM, -4);
    }

    private static String signature(Method m) {
        String all = Arrays.toString(m.getParameterTypes());
        return m.getReturnType() + " " + m.getName() + "(" + all.substring(1, all.length() - 1).replace(" ", "") + ")";
    }

    private static void members() {
        Set<String> open = new TreeSet<>();
        for (Method m : PolyCuts.class.getDeclaredMethods()) {
            if (!Modifier.isPrivate(m.getModifiers())) {
                DUE.holds(m + " is public and of an object",
                        Modifier.isPublic(m.getModifiers()) && !Modifier.isStatic(m.getModifiers()));
                open.add(signature(m));
            }
        }
        DUE.holds("the face is " + open, open.equals(new TreeSet<>(Arrays.asList(FACE))));
        Set<String> openFields = new TreeSet<>();
        for (Field f : PolyCuts.class.getDeclaredFields()) {
            DUE.holds(f + " is final if static",
                    !Modifier.isStatic(f.getModifiers()) || Modifier.isFinal(f.getModifiers()));
            if (!Modifier.isPrivate(f.getModifiers())) {
                openFields.add(f.getName());
            }
        }
        DUE.holds("open fields " + openFields,
                openFields.equals(new TreeSet<>(Arrays.asList("NONE", "UNKNOWN", "OUTSIDE", "ROOM"))));
        Constructor<?>[] made = PolyCuts.class.getDeclaredConstructors();
        DUE.holds("one constructor without arguments",
                made.length == 1 && made[0].getParameterCount() == 0 && Modifier.isPublic(made[0].getModifiers()));
        DUE.holds("the class is public and final", isSet(PolyCuts.class, Modifier.PUBLIC | Modifier.FINAL));
    }

    private static boolean isSet(Class<?> c, int bits) {
        return (c.getModifiers() & bits) == bits;
    }

    private static void nestedClasses() {
        Class<?>[] nested = PolyCuts.class.getDeclaredClasses();
        DUE.holds("at most twelve classes", nested.length < 12);
        limits(PolyCuts.class);
        for (Class<?> c : nested) {
            DUE.holds(c + " is static", isSet(c, Modifier.STATIC));
            DUE.holds(c + " is not open", (c.getModifiers() & (Modifier.PUBLIC | Modifier.PROTECTED)) == 0);
            limits(c);
            for (Method m : c.getDeclaredMethods()) {
                DUE.holds(m + " has no name of the face", !isOfFace(m));
            }
        }
        for (Method m : PolyCuts.class.getDeclaredMethods()) {
            DUE.holds(m + " is private with a name of its own", !Modifier.isPrivate(m.getModifiers()) || !isOfFace(m));
        }
    }

    private static boolean isOfFace(Member m) {
        for (String line : FACE) {
            if (line.substring(line.indexOf(' ') + 1, line.indexOf('(')).equals(m.getName())) {
                return true;
            }
        }
        return false;
    }

    private static void limits(Class<?> c) {
        int fields = 0;
        for (Field f : c.getDeclaredFields()) {
            fields += Modifier.isStatic(f.getModifiers()) ? 0 : 1;
        }
        DUE.holds(c + " has some twenty fields at most", fields <= 20);
        for (Method m : c.getDeclaredMethods()) {
            DUE.holds(m + " takes seven at most", m.getParameterCount() <= 7);
        }
    }

    private static void source() throws Exception {
        String text = Files.readString(Path.of("src/main/java/PolyCuts.java"));
        String code = text.replaceAll("(?s)/\\*.*?\\*/", "").replaceAll("//[^\n]*", "");
        for (String word : FORBIDDEN) {
            DUE.holds("the source has no '" + word + "'", !code.contains(word));
        }
        DUE.holds("the source has characters 0 to 127 alone", text.chars().allMatch(c -> c < 128));
    }
}
