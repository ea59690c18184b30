import java.io.IOException;
import java.nio.file.Files;
import java.nio.file.Path;
import java.util.HashMap;
import java.util.HashSet;
import java.util.List;
import java.util.Map;
import java.util.Set;
import java.util.regex.Matcher;
import java.util.regex.Pattern;

/**
 * A test for each sentence of the document that names a boundary case. A test is known by the sentence's
 * own words, and these are looked for in the document, so that no test is for words that are not there.
 */
final class Sentences {
    /** The number of the section 'Terms' among those of the promises. */
    static final int TERMS = 0;

    interface Call {
        void on(Office x);
    }

    private static final int PROMISES = 16;
    private static final Pattern REFUSAL = Pattern.compile("[A-Za-z]+Exception, when [^;.(]+");

    private final Check check;
    private final String[] sections = new String[PROMISES + 1];
    private final Set<String> quoted = new HashSet<>();
    private final Map<String, List<String>> plainLooks = new HashMap<>();
    private String place = "";

    Sentences(Check check, Path document) throws IOException {
        this.check = check;
        String text = Files.readString(document).replaceAll("\\s+", " ");
        int from = text.indexOf("## Terms");
        for (int promise = TERMS; promise <= PROMISES; promise++) {
            String next = promise < PROMISES ? "## Promise " + (promise + 1) + ":" : "## Not promised";
            int to = text.indexOf(next);
            sections[promise] = text.substring(from, to);
            from = to;
        }
    }

    /** The test of one sentence, or of a part of it, of a promise or of the terms. */
    void sentence(int promise, String quote, Check.Act test) {
        place = (promise == TERMS ? "Terms" : "Promise " + promise) + ", '" + quote + "': ";
        if (!sections[promise].contains(quote)) {
            check.tell(place + "the document does not say this there");
        }
        if (!quoted.add(promise + quote)) {
            check.tell(place + "there are two tests of this sentence");
        }
        check.at(place);
        test.run();
        check.at("");
    }

    /** The call throws what is due in each of these scenes, and leaves everything as it was. */
    void refused(String what, Class<? extends RuntimeException> due, Call call, Scene... scenes) {
        for (Scene scene : scenes) {
            check.fails(scene + ", " + what, due, () -> call.on(scene.make()));
            for (Look look : Look.values()) {
                List<String> before = plainLooks.computeIfAbsent(scene + " " + look, key -> plainLook(scene, look));
                sameLook(scene + ", after the refused " + what, before, look.read(after(scene, call)));
            }
        }
    }

    /** After the one call and after the other all is alike, as far as it can be seen. */
    void alike(String what, Scene scene, Call one, Call other) {
        for (Look look : Look.values()) {
            sameLook(scene + ", " + what, look.read(after(scene, other)), look.read(after(scene, one)));
        }
    }

    private static List<String> plainLook(Scene scene, Look look) {
        // some looks read as much as the calls that are left allow: a call that changes nothing keeps these alike
        return look.read(after(scene, x -> x.count(0)));
    }

    private static Office after(Scene scene, Call call) {
        Office x = scene.make();
        try {
            call.on(x);
        } catch (RuntimeException e) {
            return x;
        }
        return x;
    }

    private void sameLook(String what, List<String> due, List<String> got) {
        check.is(what + ", number of answers", due.size(), got.size());
        for (int i = 0; i < Math.min(due.size(), got.size()); i++) {
            check.same(what, due.get(i), got.get(i));
        }
    }

    /** Tells the refusals of the document for which there was no test. */
    void tellUntested() {
        for (int promise = 1; promise <= PROMISES; promise++) {
            Matcher refusal = REFUSAL.matcher(sections[promise]);
            while (refusal.find()) {
                String due = promise + refusal.group().trim();
                check.is("a test of '" + due + "'", 1, quoted.stream().filter(q -> q.startsWith(due)).count());
            }
        }
    }
}
