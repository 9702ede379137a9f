/** Promises 12 to 19: the calls about the line that are refused, and those that are just not. */
final class LineRefusals {
    private LineRefusals() {
    }

    static void run() {
        Check.test("12 throws IllegalArgumentException: 12 to 60", LineRefusals::measureOutOfRange);
        Check.test("12 throws UnsupportedOperationException: the line is not empty", LineRefusals::measureOfALine);
        Check.test("13 throws IllegalArgumentException: no such letter", LineRefusals::keyOfNoLetter);
        Check.test("13 throws UnsupportedOperationException: the line has 30 signs", LineRefusals::keyIntoFullLine);
        Check.test("13 throws IllegalStateException: the channel is empty", LineRefusals::keyOfEmpty);
        Check.test("14 throws UnsupportedOperationException: the line has 30 signs", LineRefusals::wedgeIntoFullLine);
        Check.test("16 throws IndexOutOfBoundsException: no such sign", LineRefusals::noSign);
        Check.test("18 throws UnsupportedOperationException: the line is empty", LineRefusals::sendNothing);
        Check.test("18 throws UnsupportedOperationException: something falls", LineRefusals::sendFalling);
        Check.test("18 throws UnsupportedOperationException: it does not fill, without a wedge",
                LineRefusals::sendLetters);
        Check.test("18 throws UnsupportedOperationException: it does not fill, with a wedge",
                LineRefusals::sendOneWedge);
        Check.test("18 throws UnsupportedOperationException: it does not fill, with wedges",
                LineRefusals::sendThreeWedges);
        Check.test("18 throws IllegalStateException: less metal than the measure", LineRefusals::sendWithoutMetal);
        Check.test("18 throws IllegalStateException: just the pot counts", LineRefusals::sendWithMetalElsewhere);
        Check.test("19 throws UnsupportedOperationException: something falls", LineRefusals::dropFalling);
    }

    private static void measureOutOfRange() {
        HotMetalShop shop = new HotMetalShop();
        Check.noNumbers(shop, Shops.ARGUMENT, shop::setMeasure, 11, 61, 0, -12, -60);
        Check.same("12", 30, shop.setMeasure(12));
        Check.same("60", 12, shop.setMeasure(60));
        Check.same("the one before", 60, shop.setMeasure(30));
    }

    private static void measureOfALine() {
        HotMetalShop shop = Shops.with("b", 1, 12);
        shop.wedge();
        Check.refused(shop, "a wedge is there", Shops.UNSUPPORTED, () -> shop.setMeasure(30));
        Check.refused(shop, "the same measure", Shops.UNSUPPORTED, () -> shop.setMeasure(12));
        shop.drop();
        shop.key('b');
        Check.refused(shop, "a letter falls", Shops.UNSUPPORTED, () -> shop.setMeasure(30));
        shop.tick(1);
        Check.refused(shop, "a letter is there", Shops.UNSUPPORTED, () -> shop.setMeasure(30));
        shop.drop();
        Check.same("the letter runs", 12, shop.setMeasure(30));
    }

    private static void keyOfNoLetter() {
        HotMetalShop shop = Shops.with("aj", 1, 12);
        Check.noLetters(shop, shop::key);
        Check.same("the first letter", 0, shop.key('a'));
        Check.same("the last letter", 1, shop.key('j'));
    }

    /** A line of 29 signs, one of which falls. */
    private static HotMetalShop almostFull() {
        HotMetalShop shop = Shops.with("c", 3, 12);
        shop.key('c');
        for (int i = 2; i <= 29; i++) {
            shop.wedge();
        }
        return shop;
    }

    private static void keyIntoFullLine() {
        HotMetalShop shop = almostFull();
        Check.same("the sign 30", 1, shop.key('c'));
        Check.refused(shop, "the sign 31", Shops.UNSUPPORTED, () -> shop.key('c'));
        Check.sign("nothing fell", 'm', shop.placeOf(2));
        shop.tick(2);
        Check.refused(shop, "all is there", Shops.UNSUPPORTED, () -> shop.key('c'));
        Check.same("all signs", 30, shop.drop());
        Check.same("the line is empty", 2, shop.key('c'));
    }

    private static void keyOfEmpty() {
        HotMetalShop shop = Shops.with("a", 1, 12);
        Check.refused(shop, "none were added", Shops.STATE, () -> shop.key('b'));
        Check.same("the last one", 0, shop.key('a'));
        Check.refused(shop, "empty", Shops.STATE, () -> shop.key('a'));
        shop.drop();
        shop.tick(4);
        Check.refused(shop, "it runs", Shops.STATE, () -> shop.key('a'));
        shop.tick(1);
        Check.same("it is home", 0, shop.key('a'));
        HotMetalShop astray = Shops.astray();
        Check.refused(astray, "its own are astray", Shops.STATE, () -> astray.key('d'));
        Check.same("they are here", 0, astray.key('e'));
    }

    private static void wedgeIntoFullLine() {
        HotMetalShop shop = almostFull();
        Check.same("the sign 30", 30, shop.wedge());
        Check.refused(shop, "the sign 31", Shops.UNSUPPORTED, shop::wedge);
        shop.tick(2);
        Check.refused(shop, "all is there", Shops.UNSUPPORTED, shop::wedge);
        shop.drop();
        Check.same("the line is empty", 1, shop.wedge());
    }

    private static void noSign() {
        HotMetalShop shop = Shops.with("c", 1, 12);
        Check.noNumbers(shop, Shops.INDEX, shop::signAt, 0, -1, 1);
        Shops.line(shop, "c  ");
        Check.sign("the first one", ' ', shop.signAt(0));
        Check.sign("the last one, which falls", 'c', shop.signAt(2));
        Check.noNumbers(shop, Shops.INDEX, shop::signAt, 3, -1, 30);
        for (int i = 4; i <= 30; i++) {
            shop.wedge();
        }
        Check.sign("the last one of a full line", 'c', shop.signAt(29));
        Check.noNumbers(shop, Shops.INDEX, shop::signAt, 30, -1);
        shop.tick(2);
        shop.drop();
        Check.noNumbers(shop, Shops.INDEX, shop::signAt, 0, -1);
    }

    private static void sendNothing() {
        HotMetalShop shop = Shops.with("d", 2, 12);
        Check.refused(shop, "a new line", Shops.UNSUPPORTED, shop::send);
        Shops.line(shop, "d d");
        Check.same("a line", 0, shop.send());
        Check.refused(shop, "behind sending", Shops.UNSUPPORTED, shop::send);
        shop.wedge();
        shop.drop();
        Check.refused(shop, "behind dropping", Shops.UNSUPPORTED, shop::send);
    }

    private static void sendFalling() {
        HotMetalShop shop = Shops.with("bcd", 2, 12);
        Shops.line(shop, "dbc");
        Check.same("it will fill", 0, shop.wanting());
        Check.refused(shop, "b and c fall", Shops.UNSUPPORTED, shop::send);
        shop.tick(1);
        Check.refused(shop, "c falls", Shops.UNSUPPORTED, shop::send);
        shop.tick(1);
        Check.same("all is there", 0, shop.send());
    }

    /** Whether the letters "dda", which are 12 wide, and wedges can be sent in a line of this measure. */
    private static void sendIn(int measure, String signs, boolean isFilled) {
        HotMetalShop shop = Shops.with("da", 2, measure);
        Shops.line(shop, signs);
        if (isFilled) {
            Check.same("measure " + measure, 0, shop.send());
        } else {
            Check.refused(shop, "measure " + measure, Shops.UNSUPPORTED, shop::send);
        }
    }

    private static void sendLetters() {
        sendIn(12, "dda", true);
        sendIn(13, "dda", false);
        sendIn(13, "ddaa", false);
        sendIn(14, "ddaa", true);
        sendIn(60, "dda", false);
    }

    private static void sendOneWedge() {
        sendIn(12, "dda ", false);
        sendIn(13, "dda ", false);
        sendIn(14, "dda ", true);
        sendIn(18, "dda ", true);
        sendIn(19, "dda ", false);
    }

    private static void sendThreeWedges() {
        sendIn(17, "d d a ", false);
        sendIn(18, "d d a ", true);
        sendIn(30, "d d a ", true);
        sendIn(31, "d d a ", false);
    }

    private static void sendWithoutMetal() {
        HotMetalShop shop = new HotMetalShop();
        shop.addMatrices('d', 2);
        shop.setMeasure(12);
        Shops.line(shop, "d d");
        Check.refused(shop, "an empty pot", Shops.STATE, shop::send);
        shop.feed(3, 3, 5);
        Check.refused(shop, "11 of metal", Shops.STATE, shop::send);
        shop.feed(0, 0, 1);
        Check.same("12 of metal", 0, shop.send());
        Check.text("pot", "0 0 0", Shops.metal(shop, 'p'));
    }

    private static void sendWithMetalElsewhere() {
        HotMetalShop shop = new HotMetalShop();
        shop.addMatrices('d', 4);
        shop.setMeasure(12);
        shop.feed(0, 0, 23);
        Shops.line(shop, "d d");
        shop.send();
        Shops.line(shop, "d d");
        Check.refused(shop, "12 are in a slug", Shops.STATE, shop::send);
        shop.melt(0);
        Check.same("it was melted", 1, shop.send());
    }

    private static void dropFalling() {
        HotMetalShop shop = Shops.with("acd", 2, 12);
        Shops.line(shop, "ac");
        Check.refused(shop, "c falls", Shops.UNSUPPORTED, shop::drop);
        shop.tick(1);
        Check.refused(shop, "c still falls", Shops.UNSUPPORTED, shop::drop);
        Shops.line(shop, " d");
        shop.tick(1);
        Check.same("c is there", 4, shop.drop());
        Shops.line(shop, "d ");
        Check.same("what comes at once is there", 2, shop.drop());
    }
}
