import java.util.ArrayList;
import java.util.List;
import java.util.regex.Matcher;
import java.util.regex.Pattern;

/** Looks whether what ../shared/DOC.md says has tests: each sentence of "Terms", each "Returns" and each "Throws". */
final class DocTests {
    private static final Pattern PROMISE = Pattern.compile("## Promise (\\d+): ");
    private static final Pattern THROWN = Pattern.compile("Throws `(\\w+)` if .*");
    // A test's name tells a sentence's beginning, and behind this what of the sentence it looks at.
    private static final String DETAIL = " - ";

    private DocTests() {
    }

    /** To be run behind all others: it asks for their names. */
    static void run() {
        Check.test("document: each sentence of Terms has a test", DocTests::terms);
        Check.test("document: each Returns and each Throws of a promise has a test", DocTests::promises);
        Check.test("document: no test of Terms tells a sentence that is not there", DocTests::namesOfTerms);
    }

    private static List<String> sentences() {
        String text = Check.read("../shared/DOC.md");
        String terms = text.substring(text.indexOf("## Terms"), text.indexOf("\nAhead of the calls"));
        List<String> sentences = new ArrayList<>();
        for (String paragraph : terms.substring(terms.indexOf('\n')).split("\n\n")) {
            String joined = paragraph.replaceFirst("<p>[^.]*\\. ", "").replace('\n', ' ').trim();
            for (String sentence : joined.split("(?<=\\.) (?=[A-Z])")) {
                if (!sentence.isEmpty()) {
                    sentences.add(sentence);
                }
            }
        }
        return sentences;
    }

    private static boolean tells(String test, String sentence) {
        String beginning = test.replaceFirst("^Terms: ", "");
        int detail = beginning.indexOf(DETAIL);
        return sentence.startsWith(detail < 0 ? beginning : beginning.substring(0, detail));
    }

    private static List<String> testsOfTerms() {
        List<String> tests = new ArrayList<>();
        for (String name : Check.names()) {
            if (name.startsWith("Terms: ")) {
                tests.add(name);
            }
        }
        return tests;
    }

    private static void terms() {
        Check.same("sentences", 41, sentences().size());
        for (String sentence : sentences()) {
            boolean isTold = false;
            for (String test : testsOfTerms()) {
                isTold |= tells(test, sentence);
            }
            Check.yes("a test of: " + sentence, isTold);
        }
    }

    private static void namesOfTerms() {
        for (String test : testsOfTerms()) {
            int told = 0;
            for (String sentence : sentences()) {
                told += tells(test, sentence) ? 1 : 0;
            }
            Check.same("sentences of the test " + test, 1, told);
        }
    }

    private static void promises() {
        String promise = "";
        int lines = 0;
        for (String line : Check.read("../shared/DOC.md").split("\n")) {
            Matcher heading = PROMISE.matcher(line);
            Matcher thrown = THROWN.matcher(line);
            if (heading.lookingAt()) {
                promise = heading.group(1);
                Check.yes("a test of promise " + promise, isNamed(promise + " ") || isNamed(promise + ": "));
            } else if (thrown.matches()) {
                Check.yes(promise + ": " + line, isNamed(promise + " throws " + thrown.group(1) + ": "));
                lines++;
            } else if (line.startsWith("Returns ")) {
                Check.yes(promise + ": " + line, isNamed(promise + " returns "));
                lines++;
            }
        }
        Check.same("lines", 104, lines);
    }

    private static boolean isNamed(String beginning) {
        for (String name : Check.names()) {
            if (name.startsWith(beginning)) {
                return true;
            }
        }
        return false;
    }
}
