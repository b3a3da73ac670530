import java.io.IOException;
import java.nio.file.Files;
import java.nio.file.Path;
import java.util.ArrayList;
import java.util.LinkedHashMap;
import java.util.List;
import java.util.Map;
import java.util.regex.Matcher;
import java.util.regex.Pattern;

/**
 * The document as the tests go through it: each sentence that they hold is quoted from it, has an answer at
 * least that is looked at, and no sentence of the Terms and the promises stays without a test.
 */
final class Book {
    static final int NONE = FaceSenate.NONE;

    private static final Path DOCUMENT = Path.of("../shared/DOC.md");

    /** What is no sentence: the fences, and the numbers of the parts. */
    private static final Pattern MARKS = Pattern.compile("```(text)?|==== \\d\\.");

    /** What is left between quotes, if it says something. */
    private static final Pattern WORDS = Pattern.compile("[^\\x00]*[A-Za-z0-9][^\\x00]*");

    private final Check check = new Check();
    private final Map<String, String> parts = new LinkedHashMap<>();
    private final Map<String, boolean[]> held = new LinkedHashMap<>();
    private String title = "";
    private String sentence = "";
    private int looked = 1;

    Book() throws IOException {
        if (!Files.isReadable(DOCUMENT)) {
            System.out.println("no " + DOCUMENT + ": quotes are not held against it");
            return;
        }
        String[] cut = Files.readString(DOCUMENT).split("(?m)^## ");
        for (String part : cut) {
            String name = part.lines().findFirst().orElse("").replaceAll(":.*", "");
            String body = MARKS.matcher(part.substring(part.indexOf('\n') + 1)).replaceAll(" ").replaceAll("\\s+", " ");
            // A promise's line begins with its method's head, which no sentence is.
            body = name.startsWith("Promise") ? body.replaceFirst("^ ?`[^`]*`: ", "") : body;
            if (name.equals("Terms") || name.startsWith("Promise")) {
                parts.put(name, body);
                held.put(name, new boolean[body.length()]);
            }
        }
        check.due("parts of the document", 47, parts.size());
    }

    void terms() {
        title = "Terms";
    }

    void promise(int number) {
        title = "Promise " + number;
    }

    /** What comes now holds this sentence of the part. */
    void says(String quote) {
        untested();
        sentence = title + " \"" + quote + "\"";
        looked = 0;
        String body = parts.get(title);
        if (body == null) {
            return;
        }
        int at = body.indexOf(quote);
        check.due(sentence + " stands in the document", true, at >= 0);
        for (int i = Math.max(at, 0); at >= 0 && i < at + quote.length(); i++) {
            held.get(title)[i] = true;
        }
    }

    private void untested() {
        check.due(sentence + " has a test", true, looked > 0);
    }

    void due(String call, long want, long got) {
        looked++;
        check.due(sentence + ": " + call, want, got);
    }

    void due(String call, boolean want, boolean got) {
        looked++;
        check.due(sentence + ": " + call, want, got);
    }

    void same(String call, String want, String got) {
        looked++;
        if (!want.equals(got)) {
            check.due(sentence + ": " + call + "\n  was " + want + "\n  is  " + got + "\n", true, false);
        }
    }

    FaceSenate senate(String text) {
        return check.senate(text);
    }

    /** A text with a FAULT: its number and its place. */
    void fault(String text, int number, int place) {
        FaceSenate x = new FaceSenate();
        Check.tell(x, text);
        due("senate() of \"" + text + "\"", NONE, x.senate());
        due("fault(0) of \"" + text + "\"", number, x.fault(0));
        due("fault(1) of \"" + text + "\"", place, x.fault(1));
    }

    /** A text without a FAULT, and how many MEMBERS it has. */
    FaceSenate sound(String text, int members) {
        FaceSenate x = new FaceSenate();
        Check.tell(x, text);
        due("senate() of \"" + text + "\"", members, x.senate());
        due("fault(0) of \"" + text + "\"", 0, x.fault(0));
        due("fault(1) of \"" + text + "\"", NONE, x.fault(1));
        return x;
    }

    /** What is just outside from .. to, and far outside. */
    static int[] outside(int from, int to) {
        return new int[] {from - 1, to + 1, Integer.MIN_VALUE, Integer.MAX_VALUE};
    }

    void end(String name) {
        untested();
        for (Map.Entry<String, String> part : parts.entrySet()) {
            for (String left : unheld(part.getValue(), held.get(part.getKey()))) {
                check.due(part.getKey() + ", no test holds \"" + left + "\"", true, false);
            }
        }
        check.end(name);
    }

    private static List<String> unheld(String body, boolean[] marks) {
        StringBuilder rest = new StringBuilder();
        for (int i = 0; i < body.length(); i++) {
            rest.append(marks[i] ? '\0' : body.charAt(i));
        }
        List<String> left = new ArrayList<>();
        Matcher words = WORDS.matcher(rest);
        while (words.find()) {
            left.add(words.group().trim());
        }
        return left;
    }
}
