/** The document's term "Exceptions". */
final class ExceptionTerms {
    private static final String NOTHING = "Terms: A method that throws an exception changes nothing";
    private static final String FIRST =
            "Terms: If several exceptions apply, the one that is documented first is thrown - ";

    private ExceptionTerms() {
    }

    static void run() {
        Check.test(NOTHING + " - while a line falls, matrices wait, and marks are made", ExceptionTerms::busyShop);
        Check.test(NOTHING + " - of a paragraph, of copy and of the pot", ExceptionTerms::busyPaper);
        Check.test("calls that only look change nothing, too", ExceptionTerms::looking);
        Check.test(FIRST + "addMatrices", ExceptionTerms::addMatrices);
        Check.test(FIRST + "setMeasure", ExceptionTerms::setMeasure);
        Check.test(FIRST + "key", ExceptionTerms::key);
        Check.test(FIRST + "send", ExceptionTerms::send);
        Check.test(FIRST + "tick", ExceptionTerms::tick);
        Check.test(FIRST + "feed", ExceptionTerms::feed);
        Check.test(FIRST + "type", ExceptionTerms::type);
        Check.test(FIRST + "compose", ExceptionTerms::compose);
        Check.test(FIRST + "mark", ExceptionTerms::mark);
        Check.test(FIRST + "correct", ExceptionTerms::correct);
        Check.test(FIRST + "lead", ExceptionTerms::lead);
    }

    /** Matrices wait, and a line of a letter that falls and of wedges cannot be sent. */
    private static void busyShop() {
        HotMetalShop shop = Shops.jammed();
        shop.addMatrices('c', 1);
        shop.setHeat(340);
        Shops.line(shop, " c");
        Check.refused(shop, "addMatrices", Shops.ARGUMENT, () -> shop.addMatrices('b', 13));
        Check.refused(shop, "addMatrices", Shops.STATE, () -> shop.addMatrices('a', 1));
        Check.refused(shop, "letterOf", Shops.INDEX, () -> shop.letterOf(15));
        Check.refused(shop, "placeOf", Shops.INDEX, () -> shop.placeOf(15));
        Check.refused(shop, "channelOf", Shops.INDEX, () -> shop.channelOf(15));
        Check.refused(shop, "channelOf", Shops.ELEMENT, () -> shop.channelOf(14));
        Check.refused(shop, "wearOf", Shops.INDEX, () -> shop.wearOf(-1));
        Check.refused(shop, "mend", Shops.INDEX, () -> shop.mend(15));
        Check.refused(shop, "mend", Shops.UNSUPPORTED, () -> shop.mend(0));
        Check.refused(shop, "channel", Shops.ARGUMENT, () -> shop.channel('k'));
        Check.refused(shop, "front", Shops.ARGUMENT, () -> shop.front('k'));
        Check.refused(shop, "front", Shops.ELEMENT, () -> shop.front('c'));
        Check.refused(shop, "clear", Shops.ARGUMENT, () -> shop.clear('k'));
        Check.refused(shop, "setMeasure", Shops.ARGUMENT, () -> shop.setMeasure(61));
        Check.refused(shop, "setMeasure", Shops.UNSUPPORTED, () -> shop.setMeasure(60));
        Check.refused(shop, "key", Shops.ARGUMENT, () -> shop.key('k'));
        Check.refused(shop, "key", Shops.STATE, () -> shop.key('c'));
        Check.refused(shop, "signAt", Shops.INDEX, () -> shop.signAt(2));
        Check.refused(shop, "send", Shops.UNSUPPORTED, shop::send);
        Check.refused(shop, "drop", Shops.UNSUPPORTED, shop::drop);
        Check.refused(shop, "tick", Shops.ARGUMENT, () -> shop.tick(51));
        Check.refused(shop, "setHeat", Shops.ARGUMENT, () -> shop.setHeat(351));
        Check.refused(shop, "goodShare", Shops.ARITHMETIC, shop::goodShare);
        while (shop.signs() < 30) {
            shop.wedge();
        }
        Check.refused(shop, "key", Shops.UNSUPPORTED, () -> shop.key('a'));
        Check.refused(shop, "wedge", Shops.UNSUPPORTED, shop::wedge);
    }

    /** A marked paragraph, copy that is typed, a slug that was melted and one in no paragraph. */
    private static void busyPaper() {
        HotMetalShop shop = Shops.withSlugs(2);
        shop.melt(0);
        Shops.compose(shop, "d d a");
        shop.mark(2, 0, 'a');
        Shops.type(shop, "ab ");
        Check.refused(shop, "feed", Shops.ARGUMENT, () -> shop.feed(1, 2, 501));
        Check.refused(shop, "metal", Shops.ARGUMENT, () -> shop.metal('t', 'x'));
        Check.refused(shop, "type", Shops.ARGUMENT, () -> shop.type('k'));
        Check.refused(shop, "type", Shops.UNSUPPORTED, () -> shop.type(' '));
        Check.refused(shop, "causeOf", Shops.INDEX, () -> shop.causeOf(1));
        Check.refused(shop, "lines", Shops.INDEX, () -> shop.lines(1));
        Check.refused(shop, "slugAt", Shops.INDEX, () -> shop.slugAt(0, 2));
        Check.refused(shop, "mark", Shops.INDEX, () -> shop.mark(2, 1, 'b'));
        Check.refused(shop, "mark", Shops.ELEMENT, () -> shop.mark(0, 0, 'b'));
        Check.refused(shop, "mark", Shops.UNSUPPORTED, () -> shop.mark(1, 0, 'b'));
        Check.refused(shop, "mark", Shops.ARGUMENT, () -> shop.mark(3, 0, 'k'));
        Check.refused(shop, "correct", Shops.INDEX, () -> shop.correct(1));
        Check.refused(shop, "isThere", Shops.INDEX, () -> shop.isThere(4));
        Check.refused(shop, "lengthOf", Shops.INDEX, () -> shop.lengthOf(4));
        Check.refused(shop, "proof", Shops.INDEX, () -> shop.proof(2, 3));
        Check.refused(shop, "spaceAt", Shops.INDEX, () -> shop.spaceAt(2, 0));
        Check.refused(shop, "isCold", Shops.INDEX, () -> shop.isCold(4));
        Check.refused(shop, "hasHairLine", Shops.INDEX, () -> shop.hasHairLine(4));
        Check.refused(shop, "melt", Shops.INDEX, () -> shop.melt(4));
        Check.refused(shop, "melt", Shops.ELEMENT, () -> shop.melt(0));
        Check.refused(shop, "melt", Shops.UNSUPPORTED, () -> shop.melt(2));
        Check.refused(shop, "lead", Shops.ARGUMENT, () -> shop.lead(1, 1, 3, 0));
        Check.refused(shop, "lead", Shops.INDEX, () -> shop.lead(3, 2, 6, 0));
        Check.refused(shop, "lead", Shops.ELEMENT, () -> shop.lead(1, 2, 9, 0));
        Check.refused(shop, "lead", Shops.UNSUPPORTED, () -> shop.lead(1, 2, 6, 1));
        shop.wedge();
        Check.refused(shop, "compose", Shops.UNSUPPORTED, shop::compose);
        Check.refused(shop, "correct", Shops.UNSUPPORTED, () -> shop.correct(0));
        shop.drop();
        Shops.ticks(shop, 2970);
        Check.refused(shop, "compose", Shops.STATE, shop::compose);
        Check.refused(shop, "correct", Shops.STATE, () -> shop.correct(0));
        Check.refused(shop, "tick", Shops.STATE, () -> shop.tick(50));
    }

    private static void looking() {
        HotMetalShop shop = Shops.letters(12);
        Shops.compose(shop, "d d a");
        shop.mark(0, 0, 'b');
        Shops.type(shop, "ab ");
        Shops.line(shop, "b c");
        String before = Inside.state(shop);
        shop.letterOf(0);
        shop.placeOf(0);
        shop.channelOf(1);
        shop.wearOf(0);
        shop.channel('a');
        shop.front('a');
        shop.isJammed();
        shop.signs();
        shop.signAt(1);
        shop.wanting();
        shop.now();
        shop.heat();
        shop.metal('t', 'p');
        shop.causeOf(0);
        shop.lines(0);
        shop.slugAt(0, 1);
        shop.slugs();
        shop.isThere(0);
        shop.lengthOf(0);
        shop.proof(0, 0);
        shop.spaceAt(0, 1);
        shop.isCold(0);
        shop.hasHairLine(0);
        shop.lead(0, 2, 7, 0);
        shop.ems();
        shop.goodShare();
        shop.meanWear();
        shop.isSound();
        Check.text("behind all of them", before, Inside.state(shop));
    }

    private static void addMatrices() {
        HotMetalShop shop = new HotMetalShop();
        shop.addMatrices('a', 12);
        Check.refused(shop, "13 to a full channel", Shops.ARGUMENT, () -> shop.addMatrices('a', 13));
        for (char letter = 'b'; letter <= 'e'; letter++) {
            shop.addMatrices(letter, 12);
        }
        Check.refused(shop, "no letter, 60 in all", Shops.ARGUMENT, () -> shop.addMatrices('k', 1));
        Check.refused(shop, "0, 60 in all", Shops.ARGUMENT, () -> shop.addMatrices('f', 0));
    }

    private static void setMeasure() {
        HotMetalShop shop = new HotMetalShop();
        shop.wedge();
        Check.refused(shop, "11 beside a line", Shops.ARGUMENT, () -> shop.setMeasure(11));
        Check.refused(shop, "61 beside a line", Shops.ARGUMENT, () -> shop.setMeasure(61));
    }

    private static void key() {
        HotMetalShop shop = new HotMetalShop();
        for (int i = 0; i < 30; i++) {
            shop.wedge();
        }
        Check.refused(shop, "no letter, a full line", Shops.ARGUMENT, () -> shop.key('k'));
        Check.refused(shop, "a full line, an empty channel", Shops.UNSUPPORTED, () -> shop.key('a'));
    }

    private static void send() {
        HotMetalShop shop = new HotMetalShop();
        shop.addMatrices('b', 10);
        Check.refused(shop, "no line, no metal", Shops.UNSUPPORTED, shop::send);
        Shops.line(shop, "bbbbbbbbbb");
        Check.refused(shop, "falling, no metal", Shops.UNSUPPORTED, shop::send);
        shop.tick(1);
        Check.refused(shop, "no metal", Shops.STATE, shop::send);
        Shops.line(shop, " ");
        Check.refused(shop, "it does not fill, no metal", Shops.UNSUPPORTED, shop::send);
    }

    private static void tick() {
        HotMetalShop shop = new HotMetalShop();
        Shops.ticks(shop, 3000);
        Check.refused(shop, "51", Shops.ARGUMENT, () -> shop.tick(51));
        Check.refused(shop, "the greatest number", Shops.ARGUMENT, () -> shop.tick(Integer.MAX_VALUE));
    }

    private static void feed() {
        HotMetalShop shop = new HotMetalShop();
        shop.feed(500, 500, 500);
        shop.feed(500, 500, 500);
        Check.refused(shop, "501 of tin", Shops.ARGUMENT, () -> shop.feed(501, 0, 0));
        Check.refused(shop, "501 of lead", Shops.ARGUMENT, () -> shop.feed(500, 500, 501));
        Check.refused(shop, "-1 of antimony", Shops.ARGUMENT, () -> shop.feed(500, -1, 500));
    }

    private static void type() {
        HotMetalShop shop = new HotMetalShop();
        Shops.type(shop, "a ".repeat(30));
        Check.refused(shop, "no sign, 60 signs", Shops.ARGUMENT, () -> shop.type('k'));
        Check.refused(shop, "behind a blank, 60 signs", Shops.UNSUPPORTED, () -> shop.type(' '));
        Check.refused(shop, "60 signs", Shops.STATE, () -> shop.type('a'));
    }

    private static void compose() {
        HotMetalShop shop = new HotMetalShop();
        for (int i = 0; i < 8; i++) {
            Shops.compose(shop, "a");
        }
        Check.refused(shop, "no copy, 8 paragraphs", Shops.UNSUPPORTED, shop::compose);
        shop.type('a');
        shop.wedge();
        Check.refused(shop, "a line, 8 paragraphs", Shops.UNSUPPORTED, shop::compose);
        HotMetalShop late = new HotMetalShop();
        Shops.ticks(late, 2001);
        Check.refused(late, "no copy, 2001", Shops.UNSUPPORTED, late::compose);
        late.type('a');
        late.wedge();
        Check.refused(late, "a line, 2001", Shops.UNSUPPORTED, late::compose);
    }

    private static void mark() {
        HotMetalShop shop = Shops.withSlugs(2);
        shop.melt(0);
        Check.refused(shop, "no slug, no letter", Shops.INDEX, () -> shop.mark(2, 0, 'k'));
        Check.refused(shop, "no place, melted", Shops.INDEX, () -> shop.mark(0, 3, 'a'));
        Check.refused(shop, "no place, in no paragraph", Shops.INDEX, () -> shop.mark(1, 3, 'a'));
        Check.refused(shop, "melted, in no paragraph", Shops.ELEMENT, () -> shop.mark(0, 0, 'a'));
        Check.refused(shop, "melted, no letter", Shops.ELEMENT, () -> shop.mark(0, 0, 'k'));
        Check.refused(shop, "in no paragraph, no letter", Shops.UNSUPPORTED, () -> shop.mark(1, 0, 'k'));
        Shops.compose(shop, "d d");
        Check.refused(shop, "a blank, no letter", Shops.INDEX, () -> shop.mark(2, 1, 'k'));
        Check.refused(shop, "no letter", Shops.ARGUMENT, () -> shop.mark(2, 0, 'k'));
    }

    private static void correct() {
        HotMetalShop shop = Shops.letters(12);
        Shops.compose(shop, "d d a");
        shop.wedge();
        Check.refused(shop, "no paragraph, a line", Shops.INDEX, () -> shop.correct(1));
        Check.refused(shop, "no mark, a line", Shops.ELEMENT, () -> shop.correct(0));
        Shops.ticks(shop, 2001);
        Check.refused(shop, "no paragraph, a line, 2001", Shops.INDEX, () -> shop.correct(-1));
        Check.refused(shop, "no mark, a line, 2001", Shops.ELEMENT, () -> shop.correct(0));
        shop.mark(0, 0, 'd');
        Check.refused(shop, "a line, 2001", Shops.UNSUPPORTED, () -> shop.correct(0));
        shop.drop();
        Check.refused(shop, "2001", Shops.STATE, () -> shop.correct(0));
    }

    private static void lead() {
        HotMetalShop shop = Shops.withSlugs(4);
        shop.melt(3);
        Check.refused(shop, "one, no slug", Shops.ARGUMENT, () -> shop.lead(4, 1, 3, 0));
        Check.refused(shop, "no slug, melted", Shops.INDEX, () -> shop.lead(3, 2, 6, 0));
        Check.refused(shop, "no slug, no height", Shops.INDEX, () -> shop.lead(-1, 2, 99, 0));
        Check.refused(shop, "no slug, no gap", Shops.INDEX, () -> shop.lead(0, 5, 15, 9));
        Check.refused(shop, "melted, no gap", Shops.ELEMENT, () -> shop.lead(2, 2, 6, 1));
        Check.refused(shop, "no height, no gap", Shops.ELEMENT, () -> shop.lead(0, 2, 9, 1));
        Check.refused(shop, "no gap", Shops.UNSUPPORTED, () -> shop.lead(0, 2, 8, 1));
    }
}
