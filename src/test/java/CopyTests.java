/** Promises 26 to 32: what the calls about copy, paragraphs and marks answer. */
final class CopyTests {
    private CopyTests() {
    }

    static void run() {
        Check.test("26 returns the length of the copy", CopyTests::type);
        Check.test("27 returns the number of the paragraph", CopyTests::compose);
        Check.test("28 returns '-', it did not stop", CopyTests::stopsNot);
        Check.test("28 returns 'w', no word fits", CopyTests::stopsNoWord);
        Check.test("28 returns 'l', a line that is too loose", CopyTests::stopsLoose);
        Check.test("28 returns 'e', an empty channel", CopyTests::stopsEmpty);
        Check.test("28 returns 'f', it does not fill its measure", CopyTests::stopsFill);
        Check.test("28 returns 'm', too little metal", CopyTests::stopsMetal);
        Check.test("28 returns 'q', the pot squirted", CopyTests::stopsSquirt);
        Check.test("28 returns why the latest setting stopped", CopyTests::latestCause);
        Check.test("29 returns the number of lines", CopyTests::lines);
        Check.test("30 returns the number of the slug", CopyTests::slugAt);
        Check.test("31 returns true if another letter stands there", CopyTests::mark);
        Check.test("32 returns how many lines were cast anew", CopyTests::correct);
        Check.test("32 returns 0 if none was cast", CopyTests::correctNone);
    }

    private static void type() {
        HotMetalShop shop = new HotMetalShop();
        Check.same("a letter", 1, shop.type('a'));
        Check.same("a letter", 2, shop.type('j'));
        Check.same("a blank", 3, shop.type(' '));
        Check.same("behind the blank", 4, shop.type('b'));
        shop.compose();
        Check.same("a new copy", 1, shop.type('a'));
    }

    private static void compose() {
        HotMetalShop shop = Shops.letters(12);
        Check.same("the first one", 0, Shops.compose(shop, "d d a"));
        Check.same("the second one", 1, Shops.compose(shop, "a"));
        Check.same("one that stops", 2, Shops.compose(shop, "ddd"));
        Check.same("the next one", 3, Shops.compose(shop, "b"));
        Check.text("the first one", "d d|a|", Shops.paragraph(shop, 0));
        Check.text("the second one", "a|", Shops.paragraph(shop, 1));
        Check.text("the one that stopped", "", Shops.paragraph(shop, 2));
        Check.text("the last one", "b|", Shops.paragraph(shop, 3));
    }

    private static void cause(char cause, HotMetalShop shop, String copy) {
        int paragraph = Shops.compose(shop, copy);
        Check.sign("cause of " + copy, cause, shop.causeOf(paragraph));
    }

    private static void stopsNot() {
        cause('-', Shops.letters(12), "a");
        cause('-', Shops.letters(12), "d d a");
        cause('-', Shops.letters(60), "abcdefghij j i h g f e d c b a");
    }

    private static void stopsNoWord() {
        cause('w', Shops.letters(12), "ddd a");
        cause('w', Shops.letters(12), "d d ddd");
    }

    private static void stopsLoose() {
        cause('l', Shops.letters(12), "a ddb d");
        cause('l', Shops.letters(12), "d d a ddb");
    }

    private static void stopsEmpty() {
        cause('e', Shops.with("a", 2, 12), "b");
        cause('e', Shops.with("a", 2, 12), "aaa");
    }

    private static void stopsFill() {
        HotMetalShop shop = Shops.astray();
        shop.addMatrices('e', 1);
        // d and d come from e, and e: 12 without room for wedges
        cause('f', shop, "e e e");
    }

    private static void stopsMetal() {
        HotMetalShop shop = new HotMetalShop();
        shop.addMatrices('a', 1);
        cause('m', shop, "a");
    }

    private static void stopsSquirt() {
        HotMetalShop shop = Shops.with("a", 1, 12);
        shop.setHeat(350);
        shop.tick(20);
        cause('q', shop, "a");
    }

    private static void latestCause() {
        HotMetalShop shop = Shops.letters(12);
        Shops.compose(shop, "d d ddd");
        Shops.compose(shop, "a");
        Check.sign("0", 'w', shop.causeOf(0));
        Check.sign("1", '-', shop.causeOf(1));
        shop.mark(0, 0, 'd');
        shop.correct(0);
        Check.sign("0, corrected", '-', shop.causeOf(0));
        Check.sign("1", '-', shop.causeOf(1));
    }

    private static void lines() {
        HotMetalShop shop = Shops.letters(12);
        Shops.compose(shop, "ddd");
        Shops.compose(shop, "d d a");
        Check.same("none", 0, shop.lines(0));
        Check.same("two", 2, shop.lines(1));
        shop.mark(0, 0, 'b');
        shop.mark(0, 2, 'a');
        shop.correct(1);
        Check.same("one, corrected", 1, shop.lines(1));
    }

    private static void slugAt() {
        HotMetalShop shop = Shops.letters(12);
        Shops.line(shop, "dda");
        shop.send();
        Shops.compose(shop, "d d a");
        Check.same("the first line", 1, shop.slugAt(0, 0));
        Check.same("the second line", 2, shop.slugAt(0, 1));
        shop.mark(1, 2, 'd');
        shop.correct(0);
        Check.same("cast anew", 3, shop.slugAt(0, 0));
        Check.same("that stays", 2, shop.slugAt(0, 1));
    }

    private static void mark() {
        HotMetalShop shop = Shops.letters(12);
        Shops.compose(shop, "d a");
        Check.yes("another letter", shop.mark(0, 0, 'a'));
        Check.no("the letter that stands there", shop.mark(0, 0, 'd'));
        Check.yes("another letter", shop.mark(0, 2, 'j'));
        Check.no("the letter that stands there", shop.mark(0, 2, 'a'));
    }

    private static void correct() {
        HotMetalShop shop = Shops.letters(12);
        Shops.compose(shop, "d d d d a");
        shop.mark(0, 0, 'd');
        Check.same("one of three", 1, shop.correct(0));
        shop.tick(20);
        shop.mark(shop.slugAt(0, 0), 0, 'd');
        shop.mark(shop.slugAt(0, 1), 0, 'd');
        Check.same("two of three", 2, shop.correct(0));
    }

    private static void correctNone() {
        HotMetalShop shop = Shops.letters(12);
        Shops.compose(shop, "d d a");
        shop.mark(0, 0, 'd');
        shop.setHeat(350);
        shop.tick(20);
        Check.same("it squirted", 0, shop.correct(0));
        Check.same("lines", 0, shop.lines(0));
    }
}
