import java.util.ArrayList;
import java.util.List;

/** Makes the calls of README.md's example: each line there with a comment tells what its call answers. */
final class ReadmeTests {
    private static final String COMMENT = "// ";

    private ReadmeTests() {
    }

    static void run() {
        Check.test("README: its example answers what it tells", ReadmeTests::example);
    }

    private static void example() {
        List<String> got = new ArrayList<>();
        HotMetalShop shop = new HotMetalShop();
        got.add("shop.addMatrices('d', 6); // " + shop.addMatrices('d', 6));
        got.add("shop.addMatrices('b', 4); // " + shop.addMatrices('b', 4));
        got.add("shop.feed(30, 30, 240); // " + shop.feed(30, 30, 240));
        got.add("shop.setMeasure(12); // " + shop.setMeasure(12));
        got.add("shop.key('d'); // " + shop.key('d'));
        got.add("shop.wedge(); // " + shop.wedge());
        got.add("shop.key('d'); // " + shop.key('d'));
        int slug = shop.send();
        got.add("int slug = shop.send(); // " + slug);
        got.add("shop.tick(6); // " + shop.tick(6));
        for (char sign : "d d b d".toCharArray()) {
            shop.type(sign);
        }
        int paragraph = shop.compose();
        got.add("int paragraph = shop.compose(); // " + paragraph);
        got.add("shop.causeOf(paragraph); // '" + shop.causeOf(paragraph) + "'");
        got.add("shop.lines(paragraph); // " + shop.lines(paragraph));
        got.add("shop.tick(6); // " + shop.tick(6));
        int second = shop.slugAt(paragraph, 1);
        got.add("int second = shop.slugAt(paragraph, 1); // " + second);
        got.add("shop.mark(second, 0, 'd'); // " + shop.mark(second, 0, 'd'));
        got.add("shop.correct(paragraph); // " + shop.correct(paragraph));
        got.add("shop.slugAt(paragraph, 1); // " + shop.slugAt(paragraph, 1));
        got.add("shop.lead(slug, 2, 7, 0); // " + shop.lead(slug, 2, 7, 0));
        got.add("shop.melt(slug); // " + shop.melt(slug));
        Check.text("answers", String.join("\n", got), String.join("\n", told()));
    }

    /** The lines of the example that tell an answer, without what a colon or a comma adds to it. */
    private static List<String> told() {
        List<String> told = new ArrayList<>();
        String text = Check.read("README.md");
        int begin = text.indexOf("```java");
        int end = text.indexOf("```", begin + 1);
        for (String line : text.substring(begin, end).split("\n")) {
            if (line.contains(COMMENT)) {
                told.add(line.trim().replaceFirst(" +// ", " // ").replaceFirst("(// [^:,]*).*", "$1"));
            }
        }
        return told;
    }
}
