/** Promises 31 and 32: marks and corrections. */
final class ProofTests {
    private ProofTests() {
    }

    static void run() {
        Check.test("31: mark", ProofTests::mark);
        Check.test("31: mark refuses", ProofTests::markRefuses);
        Check.test("32: correct casts a marked line anew, and others stay", ProofTests::correctOneLine);
        Check.test("32: correct casts anew what is marked as it stands", ProofTests::correctSameLetter);
        Check.test("32: correct takes the latest mark of a place", ProofTests::correctLatestMark);
        Check.test("32: correct runs over to the end", ProofTests::correctRunsOver);
        Check.test("32: correct runs over until an old line is due", ProofTests::correctRunsOverToOldLine);
        Check.test("32: correct keeps an old line between two marked ones", ProofTests::correctTwoLines);
        Check.test("32: correct takes words as they read", ProofTests::correctMisprint);
        Check.test("32: correct melts old slugs behind all", ProofTests::correctMeltsBehind);
        Check.test("32: correct that stops ends the paragraph", ProofTests::correctStops);
        Check.test("32: correct stops as composing does", ProofTests::correctCauses);
        Check.test("32: correct stops as the matrices that came do not fill", ProofTests::correctFill);
        Check.test("32: correct leaves the copy and other paragraphs alone", ProofTests::correctLeavesOthers);
        Check.test("32: correct sets with the present measure", ProofTests::correctNewMeasure);
        Check.test("32: correct lets ticks go by", ProofTests::correctTicks);
        Check.test("32: correct goes on behind an earlier stop", ProofTests::correctBehindStop);
        Check.test("32: correct refuses", ProofTests::correctRefuses);
        Check.test("32: correct refuses above the tick 2000", ProofTests::correctTooLate);
    }

    private static HotMetalShop shop() {
        return Shops.with("abcdefghij", 6, 12);
    }

    private static void mark() {
        HotMetalShop shop = shop();
        Shops.compose(shop, "d a");
        Check.yes("another letter", shop.mark(0, 0, 'a'));
        Check.no("the letter that stands there", shop.mark(0, 0, 'd'));
        Check.yes("another letter", shop.mark(0, 2, 'j'));
        Check.no("the letter that stands there", shop.mark(0, 2, 'a'));
        Check.text("marks are not read", "d a", Shops.slug(shop, 0));
    }

    private static void markRefuses() {
        HotMetalShop shop = shop();
        Check.refused("no slug", Shops.INDEX, () -> shop.mark(0, 0, 'a'));
        Shops.line(shop, "dda");
        shop.send();
        Shops.compose(shop, "d a");
        Check.refused("slug -1", Shops.INDEX, () -> shop.mark(-1, 0, 'a'));
        Check.refused("slug 2", Shops.INDEX, () -> shop.mark(2, 0, 'a'));
        Check.refused("place -1", Shops.INDEX, () -> shop.mark(1, -1, 'a'));
        Check.refused("place 3", Shops.INDEX, () -> shop.mark(1, 3, 'a'));
        Check.refused("a wedge", Shops.INDEX, () -> shop.mark(1, 1, 'a'));
        Check.refused("in no paragraph", Shops.UNSUPPORTED, () -> shop.mark(0, 0, 'a'));
        Check.refused("the paragraph is looked at first", Shops.UNSUPPORTED, () -> shop.mark(0, 0, 'k'));
        for (char wrong : Shops.NO_LETTERS) {
            Check.refused("letter " + (int) wrong, Shops.ARGUMENT, () -> shop.mark(1, 0, wrong));
        }
        Check.refused("no mark was made", Shops.ELEMENT, () -> shop.correct(0));
        shop.melt(0);
        Check.refused("melted", Shops.ELEMENT, () -> shop.mark(0, 0, 'k'));
        Check.refused("the place is looked at first", Shops.INDEX, () -> shop.mark(0, 3, 'k'));
        shop.mark(1, 0, 'a');
        shop.correct(0);
        Check.refused("melted by correcting", Shops.ELEMENT, () -> shop.mark(1, 0, 'a'));
    }

    private static void correctOneLine() {
        HotMetalShop shop = shop();
        Shops.compose(shop, "d d d d a");
        Check.text("lines", "d d|d d|a|", Shops.paragraph(shop, 0));
        Check.yes("mark", shop.mark(1, 2, 'c'));
        Check.same("cast anew", 1, shop.correct(0));
        Check.text("lines", "d d|d c|a|", Shops.paragraph(shop, 0));
        Check.text("slugs", "0 3 2", Shops.slugs(shop, 0));
        Check.sign("cause", '-', shop.causeOf(0));
        Check.no("the old one is melted", shop.isThere(1));
        Check.yes("the first one stays", shop.isThere(0));
        Check.yes("the last one stays", shop.isThere(2));
        Check.same("spread", 3, shop.spaceAt(3, 1));
        Check.same("slugs", 4, shop.slugs());
        Check.same("c falls", 2, shop.now());
        Check.same("paid for 4", 48, shop.ems());
        Check.refused("marks are gone", Shops.ELEMENT, () -> shop.correct(0));
        Check.refused("the new one is in a paragraph", Shops.UNSUPPORTED, () -> shop.melt(3));
        Check.refused("the old one is melted", Shops.ELEMENT, () -> shop.melt(1));
        Check.yes("the new one can be marked", shop.mark(3, 2, 'd'));
        Check.yes("isSound", shop.isSound());
    }

    private static void correctSameLetter() {
        HotMetalShop shop = shop();
        Shops.compose(shop, "d d a");
        Check.no("mark", shop.mark(1, 0, 'a'));
        Check.same("cast anew", 1, shop.correct(0));
        Check.text("lines", "d d|a|", Shops.paragraph(shop, 0));
        Check.text("slugs", "0 2", Shops.slugs(shop, 0));
        Check.same("the second of a", 1, shop.wearOf(1));
    }

    private static void correctLatestMark() {
        HotMetalShop shop = shop();
        Shops.compose(shop, "a b");
        shop.mark(0, 0, 'c');
        shop.mark(0, 2, 'd');
        shop.mark(0, 0, 'e');
        shop.correct(0);
        Check.text("lines", "e d|", Shops.paragraph(shop, 0));
    }

    private static void correctRunsOver() {
        HotMetalShop shop = shop();
        Shops.compose(shop, "b b b b b");
        Check.text("lines", "b b|b b|b|", Shops.paragraph(shop, 0));
        shop.mark(0, 0, 'a');
        shop.tick(20);
        Check.same("cast anew", 2, shop.correct(0));
        Check.text("lines", "a b b|b b|", Shops.paragraph(shop, 0));
        Check.text("slugs", "3 4", Shops.slugs(shop, 0));
        Check.same("quads", 2, shop.spaceAt(4, 1));
        for (int old = 0; old < 3; old++) {
            Check.no("melted", shop.isThere(old));
        }
        Check.text("slugs hold 24", "2 2 20", Shops.metal(shop, 's'));
    }

    private static void correctRunsOverToOldLine() {
        HotMetalShop shop = Shops.with("ab", 12, 12);
        Shops.compose(shop, "b b b b b b b b b");
        Check.text("lines", "b b|b b|b b|b b|b|", Shops.paragraph(shop, 0));
        shop.tick(20);
        shop.mark(0, 0, 'a');
        shop.mark(1, 2, 'a');
        Check.same("cast anew", 2, shop.correct(0));
        // the line of the slug 2 begins with the fifth word, but that is not due as a line's first
        Check.text("lines", "a b b|a b b|b b|b|", Shops.paragraph(shop, 0));
        Check.text("slugs", "5 6 3 4", Shops.slugs(shop, 0));
        Check.no("a line without a mark is melted, too", shop.isThere(2));
        Check.yes("isSound", shop.isSound());
    }

    private static void correctTwoLines() {
        HotMetalShop shop = shop();
        Shops.compose(shop, "d d d d d d a");
        shop.tick(20);
        Check.text("lines", "d d|d d|d d|a|", Shops.paragraph(shop, 0));
        shop.mark(0, 0, 'd');
        shop.mark(2, 2, 'h');
        Check.same("cast anew", 2, shop.correct(0));
        Check.text("lines", "d d|d d|d h|a|", Shops.paragraph(shop, 0));
        Check.text("slugs", "4 1 5 3", Shops.slugs(shop, 0));
    }

    private static void correctMisprint() {
        HotMetalShop shop = new HotMetalShop();
        shop.addMatrices('d', 2);
        shop.setMeasure(12);
        shop.feed(0, 0, 500);
        Shops.wear(shop, 9);
        Shops.compose(shop, "e e");
        Check.text("lines", "d d|", Shops.paragraph(shop, 0));
        shop.addMatrices('d', 2);
        shop.addMatrices('e', 2);
        Check.no("d stands there", shop.mark(9, 0, 'd'));
        Check.same("cast anew", 1, shop.correct(0));
        Check.text("lines", "d d|", Shops.paragraph(shop, 0));
        Check.same("by keys of d", 1, shop.wearOf(2));
        Check.same("not by keys of e", 0, shop.wearOf(4));
    }

    private static void correctMeltsBehind() {
        HotMetalShop shop = new HotMetalShop();
        shop.addMatrices('d', 6);
        shop.setMeasure(12);
        shop.feed(12, 0, 24);
        Shops.compose(shop, "d d d d");
        shop.tick(20);
        // 12 * 12 / 36 is 4 of tin and 8 of lead, three times
        Check.text("pot", "4 0 8", Shops.metal(shop, 'p'));
        shop.mark(0, 0, 'd');
        shop.mark(1, 0, 'd');
        Check.same("metal for one", 1, shop.correct(0));
        Check.sign("no metal for another one", 'm', shop.causeOf(0));
        Check.text("slugs", "2", Shops.slugs(shop, 0));
        Check.text("pot", "8 0 16", Shops.metal(shop, 'p'));
        Check.text("slugs", "4 0 8", Shops.metal(shop, 's'));
        Check.no("melted", shop.isThere(0));
        Check.no("melted", shop.isThere(1));
        Check.yes("isSound", shop.isSound());
    }

    private static void correctStops() {
        HotMetalShop shop = shop();
        Shops.compose(shop, "d d d d d d");
        shop.tick(20);
        Check.text("lines", "d d|d d|d d|", Shops.paragraph(shop, 0));
        shop.mark(1, 0, 'a');
        shop.mark(1, 2, 'a');
        // a a want 8 of one wedge, and d does not fit behind them
        Check.same("cast anew", 0, shop.correct(0));
        Check.sign("cause", 'l', shop.causeOf(0));
        Check.text("slugs", "0", Shops.slugs(shop, 0));
        Check.yes("ahead of the mark", shop.isThere(0));
        Check.no("marked", shop.isThere(1));
        Check.no("behind the stop", shop.isThere(2));
        Check.refused("marks are gone", Shops.ELEMENT, () -> shop.correct(0));
        shop.mark(0, 2, 'a');
        Check.same("cast anew", 1, shop.correct(0));
        Check.sign("the latest setting did not stop", '-', shop.causeOf(0));
        Check.text("the paragraph ended there", "d a|", Shops.paragraph(shop, 0));
    }

    private static void correctCauses() {
        HotMetalShop shop = Shops.with("ab", 12, 12);
        Shops.compose(shop, "aaaaaa aa");
        shop.mark(0, 0, 'b');
        Check.same("cast anew", 0, shop.correct(0));
        Check.sign("13 wide", 'w', shop.causeOf(0));
        Check.same("lines", 0, shop.lines(0));
        Shops.compose(shop, "a");
        shop.mark(2, 0, 'c');
        Check.same("cast anew", 0, shop.correct(1));
        Check.sign("no c", 'e', shop.causeOf(1));
        Check.same("lines", 0, shop.lines(1));
        Shops.compose(shop, "a");
        shop.mark(3, 0, 'a');
        shop.setHeat(350);
        shop.tick(30);
        Check.same("cast anew", 0, shop.correct(2));
        Check.sign("squirts", 'q', shop.causeOf(2));
        Check.no("melted", shop.isThere(3));
        Check.same("slugs", 4, shop.slugs());
    }

    private static void correctFill() {
        HotMetalShop shop = new HotMetalShop();
        shop.addMatrices('a', 3);
        shop.addMatrices('d', 2);
        shop.setMeasure(12);
        shop.feed(0, 0, 500);
        Shops.wear(shop, 9);
        Shops.compose(shop, "a a a");
        shop.tick(20);
        shop.mark(9, 0, 'e');
        shop.mark(9, 2, 'e');
        // d and d come from e: 12 with a, and no room for wedges
        Check.same("cast anew", 0, shop.correct(0));
        Check.sign("cause", 'f', shop.causeOf(0));
        Check.same("lines", 0, shop.lines(0));
        Check.text("all metal is back", "0 0 392", Shops.metal(shop, 'p'));
    }

    private static void correctLeavesOthers() {
        HotMetalShop shop = shop();
        Shops.compose(shop, "d a");
        Shops.compose(shop, "c a");
        shop.mark(0, 0, 'a');
        shop.mark(1, 0, 'b');
        Shops.type(shop, "ab ");
        Check.same("cast anew", 1, shop.correct(0));
        Check.text("corrected", "a a|", Shops.paragraph(shop, 0));
        Check.text("not corrected", "c a|", Shops.paragraph(shop, 1));
        Check.same("the copy goes on", 4, shop.type('c'));
        Check.same("the other mark is there", 1, shop.correct(1));
        Check.text("corrected", "b a|", Shops.paragraph(shop, 1));
        Check.same("third", 2, shop.compose());
        Check.text("the copy", "ab c|", Shops.paragraph(shop, 2));
    }

    private static void correctNewMeasure() {
        HotMetalShop shop = shop();
        Shops.compose(shop, "d d d d a");
        shop.setMeasure(30);
        shop.mark(1, 0, 'h');
        Check.same("cast anew", 1, shop.correct(0));
        Check.text("lines", "d d|h d a|", Shops.paragraph(shop, 0));
        Check.text("slugs", "0 3", Shops.slugs(shop, 0));
        Check.yes("isSound", shop.isSound());
    }

    private static void correctTicks() {
        HotMetalShop shop = Shops.with("bc", 1, 12);
        Shops.compose(shop, "b");
        Check.same("b fell", 1, shop.now());
        shop.mark(0, 0, 'c');
        shop.correct(0);
        Check.same("c fell", 3, shop.now());
        Check.same("home", 7, shop.tick(4));
        Check.sign("c runs until 8", 'r', shop.placeOf(1));
        shop.tick(1);
        Check.sign("c is home", 'm', shop.placeOf(1));
    }

    private static void correctBehindStop() {
        HotMetalShop shop = Shops.with("bc", 4, 12);
        Shops.compose(shop, "b b b b b");
        // the fifth b would come home in 7 at the earliest
        Check.sign("no b is left", 'e', shop.causeOf(0));
        Check.text("lines", "b b|b b|", Shops.paragraph(shop, 0));
        shop.tick(20);
        shop.mark(1, 2, 'b');
        Check.same("cast anew", 1, shop.correct(0));
        Check.sign("cause", '-', shop.causeOf(0));
        Check.text("what was not cast is lost", "b b|b b|", Shops.paragraph(shop, 0));
        Check.same("it was spread", 6, shop.spaceAt(1, 1));
        Check.same("it is the last line", 2, shop.spaceAt(2, 1));
    }

    private static void correctRefuses() {
        HotMetalShop shop = shop();
        Check.refused("no paragraph", Shops.INDEX, () -> shop.correct(0));
        Shops.compose(shop, "d d a");
        Check.refused("-1", Shops.INDEX, () -> shop.correct(-1));
        Check.refused("1", Shops.INDEX, () -> shop.correct(1));
        Check.refused("no mark", Shops.ELEMENT, () -> shop.correct(0));
        shop.wedge();
        Check.refused("the mark is looked at first", Shops.ELEMENT, () -> shop.correct(0));
        shop.mark(0, 0, 'b');
        Check.refused("a wedge is in the line", Shops.UNSUPPORTED, () -> shop.correct(0));
        shop.drop();
        shop.key('c');
        Check.refused("c falls", Shops.UNSUPPORTED, () -> shop.correct(0));
        shop.tick(2);
        shop.drop();
        Check.same("slugs", 2, shop.slugs());
        Check.same("b d wants 4, and a does not fit", 1, shop.correct(0));
        Check.text("lines", "b d|a|", Shops.paragraph(shop, 0));
    }

    private static void correctTooLate() {
        HotMetalShop shop = shop();
        Shops.compose(shop, "a");
        Shops.ticks(shop, 2000);
        shop.mark(0, 0, 'd');
        Check.same("in the tick 2000", 1, shop.correct(0));
        shop.tick(1);
        Check.refused("no mark", Shops.ELEMENT, () -> shop.correct(0));
        shop.mark(1, 0, 'a');
        shop.wedge();
        Check.refused("the line is looked at first", Shops.UNSUPPORTED, () -> shop.correct(0));
        shop.drop();
        Check.refused("in the tick 2001", Shops.STATE, () -> shop.correct(0));
        Check.yes("nothing was melted", shop.isThere(1));
    }
}
