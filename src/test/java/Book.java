import java.io.IOException;
import java.nio.file.Files;
import java.nio.file.Path;
import java.util.LinkedHashMap;
import java.util.Map;
import java.util.regex.Matcher;
import java.util.regex.Pattern;

/**
 * The document as the tests quote it: each test of a boundary stands under the words that name it, and at the end
 * no word of the document that names a boundary may be left without one.
 */
final class Book {
    /** What names a boundary: a number, too much or too little, what is none or refused, what is chosen among like ones. */
    private static final Pattern BOUNDARY = Pattern.compile(
        "\\d[\\d,]*|\\bNONE\\b|\\bfalse\\b|at most|at least|more than|less than|not more|\\babove\\b|\\bbelow\\b|\\bempty\\b|nothing|wrapping"
        + "|of like ones|can't be|none such|till|directly behind");

    interface Test {
        void run(Due due);
    }

    private final Map<String, String> parts = new LinkedHashMap<>();
    private final Map<String, boolean[]> quoted = new LinkedHashMap<>();
    private int wrong = 0;
    private int tests = 0;

    Book(Path document) throws IOException {
        // what stands ahead of part 1 only says what it is about
        String all = Files.readString(document).replaceAll("```\\w*", "").replaceFirst("(?s)(## What it is\n).*?==== 1\\.", "$1");
        for (String part : all.split("(?m)^## |(?= ?==== [234]\\.)")) {
            Matcher head = Pattern.compile("^(==== \\d|Promise \\d+|[^\\n]*)[.:\\n]?(.*)$", Pattern.DOTALL).matcher(part.strip());
            if (head.matches()) {
                parts.put(head.group(1).strip().replace("====", "Part"), head.group(2).replaceAll("\\s+", " ").strip());
            }
        }
        parts.remove("The public face");
        parts.forEach((name, text) -> quoted.put(name, new boolean[text.length()]));
    }

    /** A test of the sentence quoted, which must stand in that part of the document, once. */
    void holds(String part, String quote, Test test) {
        tests++;
        Due due = new Due("BoundsTest, " + part + ", \"" + quote + "\"");
        String text = parts.getOrDefault(part, "");
        int at = text.indexOf(quote);
        due.is("the quote stands in the document once", at >= 0 && text.indexOf(quote, at + 1) < 0, true);
        for (int i = at; at >= 0 && i < at + quote.length(); i++) {
            quoted.get(part)[i] = true;
        }
        int asked = due.asked();
        test.run(due);
        due.is("the test asks something", due.asked() > asked, true);
        wrong += due.wrong();
    }

    /** Each word that names a boundary is quoted by some test. */
    void leavesNothingOut() {
        Due due = new Due("BoundsTest");
        due.is("the parts of the document", parts.keySet().containsAll(java.util.List.of("What it is", "Terms", "Part 2", "Part 3", "Part 4",
            "Promise 1", "Promise 28")), true);
        parts.forEach((name, text) -> {
            Matcher word = BOUNDARY.matcher(text);
            while (!name.equals("Not promised") && word.find()) {
                String near = text.substring(Math.max(0, word.start() - 30), Math.min(text.length(), word.end() + 30));
                due.is(name + ": a test quotes the \"" + word.group() + "\" of \"" + near + "\"", quoted.get(name)[word.start()], true);
            }
        });
        wrong += due.wrong();
    }

    void finish() {
        System.out.println("BoundsTest: " + tests + " sentences, " + (wrong == 0 ? "all answers are as due" : wrong + " answers are not as due"));
        if (wrong != 0) {
            System.exit(1);
        }
    }
}
