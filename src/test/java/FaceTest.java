import java.io.IOException;
import java.lang.reflect.Field;
import java.lang.reflect.Method;
import java.lang.reflect.Modifier;
import java.nio.file.Files;
import java.nio.file.Path;
import java.util.Arrays;
import java.util.HashSet;
import java.util.Set;
import java.util.TreeSet;

/** The public face of the document, and the rules of LANGUAGE.md that the file itself shows. */
public final class FaceTest {
    private static final String[] FACE = {
        "int chain(int,int,int,int,int) throws IllegalStateException",
        "int tick(int) throws IllegalArgumentException,IllegalStateException",
        "int load(int,int) throws IndexOutOfBoundsException",
        "int digest(int,int) throws IllegalArgumentException,IndexOutOfBoundsException",
        "int send(int) throws IllegalArgumentException,IllegalStateException,UnsupportedOperationException",
        "int root() throws IllegalStateException,UnsupportedOperationException",
        "int packet(int,int) throws IndexOutOfBoundsException",
        "int key(int,int) throws IndexOutOfBoundsException,IllegalStateException",
        "void join(int,int) throws IndexOutOfBoundsException,IllegalStateException",
        "int drift(int,int) throws IndexOutOfBoundsException,IllegalArgumentException",
        "int arrive(int,int,int,int) throws IndexOutOfBoundsException,IllegalArgumentException",
        "int receiver(int,int) throws IndexOutOfBoundsException",
        "int released(int,int,int) throws IndexOutOfBoundsException",
        "int releasedByte(int,int,int) throws IndexOutOfBoundsException",
        "int count(int) throws ",
    };

    private static final String[] FORBIDDEN = {"->", "::", "synchronized", "finally", "assert ", "static {",
        "catch", "package ", "System.out", "Exact(", "Math.random", "currentTimeMillis", "nanoTime"};

    private static final Check check = new Check();

    public static void main(String[] args) throws IOException {
        members();
        ownMethods(BulletinOffice.class);
        classesInside();
        text();
        check.end("FaceTest");
    }

    private static String names(Class<?>[] classes) {
        StringBuilder all = new StringBuilder();
        for (Class<?> c : classes) {
            all.append(all.length() == 0 ? "" : ",").append(c.getSimpleName());
        }
        return all.toString();
    }

    private static void members() {
        Class<?> office = BulletinOffice.class;
        check.is("public and final", Modifier.PUBLIC | Modifier.FINAL, office.getModifiers());
        Set<String> seen = new TreeSet<>();
        for (Method m : office.getDeclaredMethods()) {
            if (!Modifier.isPrivate(m.getModifiers())) {
                check.is(m + " is public alone", Modifier.PUBLIC, m.getModifiers());
                seen.add(m.getReturnType() + " " + m.getName() + "(" + names(m.getParameterTypes())
                        + ") throws " + names(m.getExceptionTypes()));
            }
        }
        Set<String> due = new TreeSet<>(Arrays.asList(FACE));
        if (!seen.equals(due)) {
            check.tell("the face is " + seen + ", due is " + due);
        }
        for (Field f : office.getDeclaredFields()) {
            boolean isPublic = !Modifier.isPrivate(f.getModifiers());
            check.is(f + " is seen from outside", f.getName().equals("NONE") ? 1 : 0, isPublic ? 1 : 0);
        }
        check.is("constructors", 1, office.getDeclaredConstructors().length);
        check.is("the constructor's parameters", 3, office.getConstructors()[0].getParameterCount());
    }

    private static void ownMethods(Class<?> c) {
        Set<String> faceNames = new HashSet<>();
        for (String line : FACE) {
            faceNames.add(line.substring(line.indexOf(' ') + 1, line.indexOf('(')));
        }
        for (Method m : c.getDeclaredMethods()) {
            if (!Modifier.isPublic(m.getModifiers())) {
                check.is(m + " bears a name of the face", 0, faceNames.contains(m.getName()) ? 1 : 0);
                check.is(m + " has few parameters", 1, m.getParameterCount() <= 7 ? 1 : 0);
            }
        }
    }

    private static void classesInside() {
        Class<?>[] inside = BulletinOffice.class.getDeclaredClasses();
        check.is("not too many classes", 1, inside.length < 12 ? 1 : 0);
        for (Class<?> c : inside) {
            check.is(c + " is private or package-visible", 0,
                    c.getModifiers() & (Modifier.PUBLIC | Modifier.PROTECTED));
            check.is(c + " is static", Modifier.STATIC, c.getModifiers() & Modifier.STATIC);
            check.is(c + " has few fields", 1, fieldsOf(c) <= 20 ? 1 : 0);
            ownMethods(c);
        }
    }

    private static int fieldsOf(Class<?> c) {
        int n = 0;
        for (Field f : c.getDeclaredFields()) {
            n += Modifier.isStatic(f.getModifiers()) ? 0 : 1;
            check.is(f + ", static but not final", 0,
                    (f.getModifiers() & (Modifier.STATIC | Modifier.FINAL)) == Modifier.STATIC ? 1 : 0);
        }
        return n;
    }

    private static void text() throws IOException {
        String program = Files.readString(Path.of("src/main/java/BulletinOffice.java"));
        for (String word : FORBIDDEN) {
            check.is("the program has '" + word + "'", 0, program.contains(word) ? 1 : 0);
        }
        for (String line : program.split("\n")) {
            if (line.startsWith("import ")) {
                check.is(line, 1, line.matches("import java.util.(ArrayList|Arrays|List);") ? 1 : 0);
            }
        }
    }
}
