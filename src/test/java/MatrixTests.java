/** Promises 1 to 11: a new shop, and what the calls about its matrices answer. */
final class MatrixTests {
    private MatrixTests() {
    }

    static void run() {
        Check.test("1: a shop without matrices, with an empty pot, in the tick 0", MatrixTests::newShop);
        Check.test("2 returns how many matrices there are in all", MatrixTests::addMatrices);
        Check.test("2: matrices are added behind the others", MatrixTests::addMatricesBehind);
        Check.test("2: only what lies in the channel counts for its room", MatrixTests::addMatricesWhileOthersAreOut);
        Check.test("3 returns the letter", MatrixTests::letterOf);
        Check.test("4 returns where a matrix is, on its whole way round", MatrixTests::placeOf);
        Check.test("4 returns 'r' also while it waits for room", MatrixTests::placeOfWaiting);
        Check.test("5 returns the letter of the channel", MatrixTests::channelOf);
        Check.test("5 returns another letter for what is astray", MatrixTests::channelOfAstray);
        Check.test("6 returns the wear, which grows by sending alone", MatrixTests::wearOf);
        Check.test("7 returns the wear before", MatrixTests::mend);
        Check.test("7: what is mended stays where it is, and runs to its own channel then", MatrixTests::mendAstray);
        Check.test("8 returns the number of matrices", MatrixTests::channel);
        Check.test("9 returns the number of the matrix at the front", MatrixTests::front);
        Check.test("10 returns how many matrices of other letters were in it", MatrixTests::clear);
        Check.test("10 returns those, too, that stay without room", MatrixTests::clearWithoutRoom);
        Check.test("11 returns whether a matrix waits for room", MatrixTests::isJammed);
        Check.test("11 returns true until a tick begins with room", MatrixTests::isJammedUntilTick);
        Check.test("11 returns true also when a channel was cleared, until a tick begins",
                MatrixTests::isJammedCleared);
    }

    private static void newShop() {
        HotMetalShop shop = new HotMetalShop();
        for (char letter = 'a'; letter <= 'j'; letter++) {
            Check.same("channel " + letter, 0, shop.channel(letter));
        }
        for (char where : "psfd".toCharArray()) {
            Check.text("metal " + where, "0 0 0", Shops.metal(shop, where));
        }
        Check.same("now", 0, shop.now());
        Check.same("heat", 280, shop.heat());
        Check.same("wished heat", 280, shop.setHeat(280));
        Check.same("signs", 0, shop.signs());
        Check.same("wanting", 30, shop.wanting());
        Check.same("measure", 30, shop.setMeasure(30));
        Check.same("slugs", 0, shop.slugs());
        Check.same("ems", 0, shop.ems());
        Check.no("isJammed", shop.isJammed());
        Check.yes("isSound", shop.isSound());
        Check.refused(shop, "no matrix", Shops.INDEX, () -> shop.letterOf(0));
        Check.refused(shop, "no paragraph", Shops.INDEX, () -> shop.causeOf(0));
        Check.refused(shop, "no slug", Shops.INDEX, () -> shop.isThere(0));
        Check.refused(shop, "no copy", Shops.UNSUPPORTED, shop::compose);
        Check.same("the copy is empty", 1, shop.type('a'));
    }

    private static void addMatrices() {
        HotMetalShop shop = new HotMetalShop();
        Check.same("first", 2, shop.addMatrices('c', 2));
        Check.same("another letter", 3, shop.addMatrices('a', 1));
        shop.key('a');
        Check.same("one that is out counts", 4, shop.addMatrices('a', 1));
        Check.same("12 at once", 16, shop.addMatrices('j', 12));
    }

    private static void addMatricesBehind() {
        HotMetalShop shop = new HotMetalShop();
        shop.addMatrices('c', 2);
        shop.addMatrices('a', 1);
        shop.addMatrices('c', 2);
        Check.text("c", "0 1 3 4", Shops.order(shop, 'c'));
        Check.text("a", "2", Shops.order(shop, 'a'));
        HotMetalShop other = Shops.astray();
        other.addMatrices('e', 1);
        Check.text("behind those that are astray", "0 1 2", Shops.order(other, 'e'));
    }

    private static void addMatricesWhileOthersAreOut() {
        HotMetalShop shop = new HotMetalShop();
        shop.addMatrices('a', 12);
        shop.key('a');
        Check.same("one more", 13, shop.addMatrices('a', 1));
        Check.same("12 again", 12, shop.channel('a'));
    }

    private static void letterOf() {
        HotMetalShop shop = new HotMetalShop();
        shop.addMatrices('j', 2);
        shop.addMatrices('a', 1);
        Check.sign("0", 'j', shop.letterOf(0));
        Check.sign("1", 'j', shop.letterOf(1));
        Check.sign("2", 'a', shop.letterOf(2));
        HotMetalShop other = Shops.astray();
        Check.sign("it keeps its letter in e", 'd', other.letterOf(0));
    }

    private static void placeOf() {
        HotMetalShop shop = new HotMetalShop();
        shop.addMatrices('b', 1);
        Check.sign("in its channel", 'm', shop.placeOf(0));
        shop.key('b');
        Check.sign("falling", 'l', shop.placeOf(0));
        shop.tick(1);
        Check.sign("in the line", 'l', shop.placeOf(0));
        shop.drop();
        Check.sign("running", 'r', shop.placeOf(0));
        shop.tick(4);
        Check.sign("still running", 'r', shop.placeOf(0));
        shop.tick(1);
        Check.sign("home", 'm', shop.placeOf(0));
    }

    private static void placeOfWaiting() {
        HotMetalShop shop = Shops.jammed();
        Check.sign("a waits", 'r', shop.placeOf(0));
        Check.sign("j waits behind it", 'r', shop.placeOf(12));
        Check.sign("another one", 'm', shop.placeOf(13));
    }

    private static void channelOf() {
        HotMetalShop shop = new HotMetalShop();
        shop.addMatrices('b', 1);
        shop.addMatrices('j', 1);
        Check.sign("b", 'b', shop.channelOf(0));
        Check.sign("j", 'j', shop.channelOf(1));
        shop.key('b');
        shop.tick(1);
        shop.drop();
        shop.tick(5);
        Check.sign("home again", 'b', shop.channelOf(0));
    }

    private static void channelOfAstray() {
        HotMetalShop shop = Shops.astray();
        Check.sign("astray", 'e', shop.channelOf(0));
        shop.clear('e');
        Check.sign("cleared", 'd', shop.channelOf(0));
    }

    private static void wearOf() {
        HotMetalShop shop = Shops.with("d", 3, 12);
        Check.same("new", 0, shop.wearOf(0));
        Shops.line(shop, "d d");
        shop.drop();
        shop.tick(6);
        Check.same("dropped", 0, shop.wearOf(0));
        Shops.line(shop, "d d");
        shop.send();
        Check.same("sent", 1, shop.wearOf(2));
        Check.same("sent", 1, shop.wearOf(0));
        Check.same("not sent", 0, shop.wearOf(1));
        shop.setHeat(350);
        shop.tick(20);
        Shops.line(shop, "d d");
        Check.same("squirts", -1, shop.send());
        Check.same("sent without a slug", 1, shop.wearOf(1));
        Check.same("sent twice", 2, shop.wearOf(2));
    }

    private static void mend() {
        HotMetalShop shop = Shops.astray();
        Check.same("wear before", 9, shop.mend(0));
        Check.same("wear then", 0, shop.wearOf(0));
        Check.same("mended twice", 0, shop.mend(0));
        Check.same("another one", 9, shop.wearOf(1));
    }

    private static void mendAstray() {
        HotMetalShop shop = Shops.astray();
        shop.mend(1);
        Check.sign("it stays where it is", 'e', shop.channelOf(1));
        Check.text("in its place", "0 1", Shops.order(shop, 'e'));
        shop.tick(1);
        shop.drop();
        shop.tick(6);
        Check.sign("the mended one", 'd', shop.channelOf(1));
        Check.sign("the other one", 'e', shop.channelOf(0));
    }

    private static void channel() {
        HotMetalShop shop = new HotMetalShop();
        shop.addMatrices('a', 3);
        shop.addMatrices('j', 12);
        Check.same("a", 3, shop.channel('a'));
        Check.same("j", 12, shop.channel('j'));
        Check.same("b", 0, shop.channel('b'));
        shop.key('a');
        Check.same("a without one", 2, shop.channel('a'));
        Check.same("those of other letters, too", 2, Shops.astray().channel('e'));
    }

    private static void front() {
        HotMetalShop shop = new HotMetalShop();
        shop.addMatrices('j', 1);
        shop.addMatrices('a', 2);
        Check.same("front", 1, shop.front('a'));
        Check.same("it is only looked at", 1, shop.front('a'));
        shop.key('a');
        Check.same("next", 2, shop.front('a'));
        Check.same("j", 0, shop.front('j'));
        Check.same("another letter's", 0, Shops.astray().front('e'));
    }

    private static void clear() {
        HotMetalShop shop = Shops.astray();
        shop.addMatrices('e', 2);
        Check.same("d is empty", 0, shop.clear('d'));
        Check.same("two of d are in e", 2, shop.clear('e'));
        Check.same("none then", 0, shop.clear('e'));
        Check.same("none in d", 0, shop.clear('d'));
        Check.text("e", "2 3", Shops.order(shop, 'e'));
        Check.text("d", "0 1", Shops.order(shop, 'd'));
    }

    private static void clearWithoutRoom() {
        HotMetalShop shop = Shops.astray();
        shop.addMatrices('d', 12);
        Check.same("two of d are in e", 2, shop.clear('e'));
        Check.same("and stay", 2, shop.clear('e'));
        Check.sign("and stay", 'e', shop.channelOf(0));
    }

    private static void isJammed() {
        HotMetalShop shop = Shops.with("a", 12, 12);
        shop.key('a');
        shop.addMatrices('a', 1);
        shop.drop();
        Check.no("it runs", shop.isJammed());
        shop.tick(4);
        Check.no("it is not due", shop.isJammed());
        shop.tick(1);
        Check.yes("it is due, and a is full", shop.isJammed());
        shop.tick(1);
        Check.yes("a is still full", shop.isJammed());
    }

    private static void isJammedUntilTick() {
        HotMetalShop shop = Shops.jammed();
        Check.yes("a is full", shop.isJammed());
        shop.key('a');
        Check.yes("no tick has begun", shop.isJammed());
        shop.tick(1);
        Check.no("a tick began with room", shop.isJammed());
    }

    private static void isJammedCleared() {
        HotMetalShop shop = Shops.astray();
        // e is filled, and the matrices 0 and 1 of d, in the line, have no room there when they come
        Shops.line(shop, "ee");
        shop.addMatrices('e', 12);
        shop.tick(1);
        shop.drop();
        shop.tick(6);
        Check.yes("e is full", shop.isJammed());
        Check.same("e holds its own", 0, shop.clear('e'));
        shop.key('e');
        shop.clear('e');
        Check.yes("no tick has begun", shop.isJammed());
        shop.tick(1);
        Check.yes("room for one", shop.isJammed());
        Check.sign("0 is home", 'm', shop.placeOf(0));
        Check.sign("1 waits", 'r', shop.placeOf(1));
    }
}
