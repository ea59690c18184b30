import java.io.IOException;
import java.lang.reflect.Method;
import java.lang.reflect.Modifier;
import java.nio.file.Files;
import java.nio.file.Path;
import java.util.regex.Matcher;
import java.util.regex.Pattern;

/** README.md shows how to use the class: its example answers what it says, and its table has every call. */
public final class ReadmeTest {
    private static final Pattern MAKE = Pattern.compile("BulletinOffice office = new BulletinOffice\\((.*)\\);");
    private static final Pattern CALL = Pattern.compile("office\\.(\\w+)\\((.*)\\); +// (?:(-?\\d+): )?\\S.*");

    private static final Check check = new Check();

    private ReadmeTest() {
    }

    public static void main(String[] args) throws IOException {
        String text = Files.readString(Path.of("README.md"));
        example(between(text, "```java\n", "```").split("\n"));
        table(text);
        check.end("ReadmeTest");
    }

    private static String between(String text, String begin, String end) {
        int from = text.indexOf(begin) + begin.length();
        return text.substring(from, text.indexOf(end, from));
    }

    private static void example(String[] lines) {
        Matcher make = MAKE.matcher(lines[0]);
        if (!make.matches()) {
            check.tell("the example does not begin with a new object: " + lines[0]);
            return;
        }
        int[] given = numbers(make.group(1));
        BulletinOffice office = new BulletinOffice(given[0], given[1], given[2]);
        for (int i = 1; i < lines.length; i++) {
            Matcher call = CALL.matcher(lines[i]);
            if (call.matches()) {
                line(office, call);
            } else {
                check.tell("this line is no call with what it answers: " + lines[i]);
            }
        }
    }

    private static void line(BulletinOffice office, Matcher call) {
        String due = call.group(3) == null ? "nothing" : call.group(3);
        check.same(call.group(), due, answer(office, call.group(1), numbers(call.group(2))));
    }

    private static String answer(BulletinOffice office, String name, int[] given) {
        Object[] arguments = new Object[given.length];
        Class<?>[] types = new Class<?>[given.length];
        for (int i = 0; i < given.length; i++) {
            arguments[i] = given[i];
            types[i] = int.class;
        }
        try {
            Object answer = BulletinOffice.class.getMethod(name, types).invoke(office, arguments);
            return answer == null ? "nothing" : answer.toString();
        } catch (ReflectiveOperationException e) {
            return e + " by " + e.getCause();
        }
    }

    private static int[] numbers(String list) {
        String[] texts = list.isEmpty() ? new String[0] : list.split(", ");
        int[] all = new int[texts.length];
        for (int i = 0; i < all.length; i++) {
            all[i] = Integer.decode(texts[i]);
        }
        return all;
    }

    private static void table(String text) {
        for (Method m : BulletinOffice.class.getDeclaredMethods()) {
            if (Modifier.isPublic(m.getModifiers())) {
                Matcher row = Pattern.compile("\\| `" + m.getName() + "\\((.*)\\)` \\|").matcher(text);
                check.is("rows of the table for " + m.getName(), 1, row.results().count());
                row.reset();
                if (row.find()) {
                    String given = row.group(1);
                    check.is("parameters in the row for " + m.getName(), m.getParameterCount(),
                            given.isEmpty() ? 0 : given.split(", ").length);
                }
            }
        }
    }
}
