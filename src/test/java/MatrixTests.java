/** Promises 1 to 11: a new shop, and its matrices. */
final class MatrixTests {
    private MatrixTests() {
    }

    static void run() {
        Check.test("1: a new shop has no matrices, an empty pot, and the tick 0", MatrixTests::newShop);
        Check.test("2: addMatrices puts matrices behind the others", MatrixTests::addMatrices);
        Check.test("2: addMatrices keeps to 12 in a channel and 60 in all", MatrixTests::addMatricesLimits);
        Check.test("2: addMatrices counts only what lies in the channel", MatrixTests::addMatricesWhileOthersAreOut);
        Check.test("3: letterOf", MatrixTests::letterOf);
        Check.test("4: placeOf on the whole way round", MatrixTests::placeOf);
        Check.test("5: channelOf", MatrixTests::channelOf);
        Check.test("5: a matrix with a wear of 9 goes astray", MatrixTests::astray);
        Check.test("5: j goes astray behind a", MatrixTests::astrayFromTheLast);
        Check.test("6: wearOf grows by sending alone", MatrixTests::wearOf);
        Check.test("7: mend", MatrixTests::mend);
        Check.test("8: channel counts", MatrixTests::channel);
        Check.test("9: front", MatrixTests::front);
        Check.test("9: matrices come home by their ticks, then by their numbers", MatrixTests::orderHome);
        Check.test("10: clear brings others home", MatrixTests::clear);
        Check.test("10: clear keeps what has no room, in its order", MatrixTests::clearWithoutRoom);
        Check.test("10: clear brings home as many as there is room", MatrixTests::clearWithRoomForOne);
        Check.test("11: isJammed until a tick begins with room", MatrixTests::isJammed);
        Check.test("11: what waits falls by its tick, not by its number", MatrixTests::jamOrder);
    }

    private static void newShop() {
        HotMetalShop shop = new HotMetalShop();
        for (char letter = 'a'; letter <= 'j'; letter++) {
            Check.same("channel " + letter, 0, shop.channel(letter));
        }
        for (char where : "psfd".toCharArray()) {
            Check.text("metal " + where, "0 0 0", Shops.metal(shop, where));
        }
        Check.same("now", 0, shop.now());
        Check.same("heat", 280, shop.heat());
        Check.same("wished heat", 280, shop.setHeat(280));
        Check.same("signs", 0, shop.signs());
        Check.same("wanting", 30, shop.wanting());
        Check.same("slugs", 0, shop.slugs());
        Check.same("ems", 0, shop.ems());
        Check.no("isJammed", shop.isJammed());
        Check.yes("isSound", shop.isSound());
        Check.refused("letterOf(0)", Shops.INDEX, () -> shop.letterOf(0));
        Check.refused("causeOf(0)", Shops.INDEX, () -> shop.causeOf(0));
    }

    private static void addMatrices() {
        HotMetalShop shop = new HotMetalShop();
        Check.same("first", 2, shop.addMatrices('c', 2));
        Check.same("second", 3, shop.addMatrices('a', 1));
        Check.same("third", 5, shop.addMatrices('c', 2));
        Check.same("wear", 0, shop.wearOf(4));
        Check.text("c", "0 1 3 4", Shops.order(shop, 'c'));
        Check.text("a", "2", Shops.order(shop, 'a'));
    }

    private static void addMatricesLimits() {
        HotMetalShop shop = new HotMetalShop();
        for (char wrong : Shops.NO_LETTERS) {
            Check.refused("letter " + (int) wrong, Shops.ARGUMENT, () -> shop.addMatrices(wrong, 1));
        }
        for (int wrong : new int[] {0, 13, -1, Integer.MAX_VALUE, Integer.MIN_VALUE}) {
            Check.refused("many " + wrong, Shops.ARGUMENT, () -> shop.addMatrices('a', wrong));
        }
        shop.addMatrices('a', 11);
        Check.refused("13 in a", Shops.STATE, () -> shop.addMatrices('a', 2));
        Check.same("nothing was added", 11, shop.channel('a'));
        Check.same("12 in a", 12, shop.addMatrices('a', 1));
        for (char letter = 'b'; letter <= 'd'; letter++) {
            shop.addMatrices(letter, 12);
        }
        shop.addMatrices('j', 11);
        Check.refused("61 in all", Shops.STATE, () -> shop.addMatrices('e', 2));
        Check.same("60 in all", 60, shop.addMatrices('e', 1));
        Check.refused("61 in all", Shops.STATE, () -> shop.addMatrices('f', 1));
        Check.refused("the number is looked at first", Shops.ARGUMENT, () -> shop.addMatrices('a', 13));
        Check.refused("the letter is looked at first", Shops.ARGUMENT, () -> shop.addMatrices('k', 1));
        Check.refused("no matrix 60", Shops.INDEX, () -> shop.letterOf(60));
    }

    private static void addMatricesWhileOthersAreOut() {
        HotMetalShop shop = new HotMetalShop();
        shop.addMatrices('a', 12);
        shop.key('a');
        Check.same("one more", 13, shop.addMatrices('a', 1));
        Check.refused("full again", Shops.STATE, () -> shop.addMatrices('a', 1));
    }

    private static void letterOf() {
        HotMetalShop shop = new HotMetalShop();
        shop.addMatrices('j', 2);
        shop.addMatrices('a', 1);
        Check.sign("0", 'j', shop.letterOf(0));
        Check.sign("1", 'j', shop.letterOf(1));
        Check.sign("2", 'a', shop.letterOf(2));
        Check.refused("-1", Shops.INDEX, () -> shop.letterOf(-1));
        Check.refused("3", Shops.INDEX, () -> shop.letterOf(3));
    }

    private static void placeOf() {
        HotMetalShop shop = new HotMetalShop();
        shop.addMatrices('b', 1);
        Check.sign("in its channel", 'm', shop.placeOf(0));
        shop.key('b');
        Check.sign("falling", 'l', shop.placeOf(0));
        shop.tick(1);
        Check.sign("in the line", 'l', shop.placeOf(0));
        shop.drop();
        Check.sign("running", 'r', shop.placeOf(0));
        shop.tick(4);
        Check.sign("still running", 'r', shop.placeOf(0));
        shop.tick(1);
        Check.sign("home", 'm', shop.placeOf(0));
        Check.refused("-1", Shops.INDEX, () -> shop.placeOf(-1));
        Check.refused("1", Shops.INDEX, () -> shop.placeOf(1));
    }

    private static void channelOf() {
        HotMetalShop shop = new HotMetalShop();
        shop.addMatrices('b', 1);
        Check.sign("home", 'b', shop.channelOf(0));
        shop.key('b');
        Check.refused("falling", Shops.ELEMENT, () -> shop.channelOf(0));
        shop.tick(1);
        Check.refused("in the line", Shops.ELEMENT, () -> shop.channelOf(0));
        shop.drop();
        Check.refused("running", Shops.ELEMENT, () -> shop.channelOf(0));
        shop.tick(5);
        Check.sign("home again", 'b', shop.channelOf(0));
        Check.refused("-1", Shops.INDEX, () -> shop.channelOf(-1));
        Check.refused("1", Shops.INDEX, () -> shop.channelOf(1));
    }

    private static void astray() {
        HotMetalShop shop = Shops.with("de", 2, 12);
        Shops.wear(shop, 8);
        Check.sign("home with a wear of 8", 'd', shop.channelOf(0));
        Shops.wear(shop, 1);
        Check.same("wear", 9, shop.wearOf(0));
        Check.sign("astray with a wear of 9", 'e', shop.channelOf(0));
        Check.sign("it keeps its letter", 'd', shop.letterOf(0));
        Check.same("d is empty", 0, shop.channel('d'));
        Check.text("behind the others", "2 3 0 1", Shops.order(shop, 'e'));
        shop.tick(1);
        shop.drop();
        shop.tick(8);
        Check.sign("from e it comes to e again", 'e', shop.channelOf(0));
    }

    private static void astrayFromTheLast() {
        HotMetalShop shop = Shops.with("aj", 2, 12);
        for (int i = 0; i < 9; i++) {
            Shops.line(shop, "j j ");
            shop.send();
            shop.tick(6);
        }
        Check.sign("astray", 'a', shop.channelOf(2));
        Check.text("behind the others", "0 1 2 3", Shops.order(shop, 'a'));
    }

    private static void wearOf() {
        HotMetalShop shop = Shops.with("d", 3, 12);
        Shops.line(shop, "d d");
        shop.drop();
        Check.same("dropped", 0, shop.wearOf(0));
        shop.tick(6);
        Shops.line(shop, "d d");
        shop.send();
        Check.same("sent", 1, shop.wearOf(2));
        Check.same("sent", 1, shop.wearOf(0));
        Check.same("not sent", 0, shop.wearOf(1));
        shop.setHeat(350);
        shop.tick(20);
        Shops.line(shop, "d d");
        Check.same("squirts", -1, shop.send());
        Check.same("sent without a slug", 1, shop.wearOf(1));
        Check.refused("-1", Shops.INDEX, () -> shop.wearOf(-1));
        Check.refused("3", Shops.INDEX, () -> shop.wearOf(3));
    }

    private static void mend() {
        HotMetalShop shop = Shops.with("de", 2, 12);
        Shops.wear(shop, 9);
        Check.same("wear before", 9, shop.mend(0));
        Check.same("wear then", 0, shop.wearOf(0));
        Check.same("mended twice", 0, shop.mend(0));
        Check.same("another one", 9, shop.wearOf(1));
        Check.sign("it stays where it is", 'e', shop.channelOf(0));
        Check.text("order", "2 3 0 1", Shops.order(shop, 'e'));
        Check.refused("falling", Shops.UNSUPPORTED, () -> shop.mend(1));
        shop.tick(1);
        Check.refused("in the line", Shops.UNSUPPORTED, () -> shop.mend(1));
        shop.drop();
        Check.refused("running", Shops.UNSUPPORTED, () -> shop.mend(1));
        Check.same("nothing was mended", 9, shop.wearOf(1));
        shop.tick(8);
        Check.sign("a mended one runs home", 'd', shop.channelOf(0));
        Check.sign("another one goes astray", 'e', shop.channelOf(1));
        Check.refused("-1", Shops.INDEX, () -> shop.mend(-1));
        Check.refused("4", Shops.INDEX, () -> shop.mend(4));
    }

    private static void channel() {
        HotMetalShop shop = new HotMetalShop();
        shop.addMatrices('a', 3);
        shop.addMatrices('j', 12);
        Check.same("a", 3, shop.channel('a'));
        Check.same("j", 12, shop.channel('j'));
        Check.same("b", 0, shop.channel('b'));
        shop.key('a');
        Check.same("a without one", 2, shop.channel('a'));
        for (char wrong : Shops.NO_LETTERS) {
            Check.refused("letter " + (int) wrong, Shops.ARGUMENT, () -> shop.channel(wrong));
        }
    }

    private static void front() {
        HotMetalShop shop = new HotMetalShop();
        Check.refused("empty", Shops.ELEMENT, () -> shop.front('a'));
        shop.addMatrices('a', 2);
        Check.same("front", 0, shop.front('a'));
        Check.same("it is only looked at", 0, shop.front('a'));
        shop.key('a');
        Check.same("next", 1, shop.front('a'));
        shop.key('a');
        Check.refused("empty again", Shops.ELEMENT, () -> shop.front('a'));
        for (char wrong : Shops.NO_LETTERS) {
            Check.refused("letter " + (int) wrong, Shops.ARGUMENT, () -> shop.front(wrong));
        }
    }

    /** A shop whose channel a holds 2 3 0 1, in the tick 6. */
    private static HotMetalShop turned() {
        HotMetalShop shop = new HotMetalShop();
        shop.addMatrices('a', 4);
        Shops.line(shop, "aa");
        shop.drop();
        shop.tick(6);
        return shop;
    }

    private static void orderHome() {
        HotMetalShop shop = turned();
        Shops.line(shop, "aa");
        shop.drop();
        shop.tick(1);
        shop.key('a');
        shop.drop();
        shop.tick(5);
        // 2 came in the tick 11, 3 and 0 in the tick 12
        Check.text("order", "1 2 0 3", Shops.order(shop, 'a'));
    }

    private static void clear() {
        HotMetalShop shop = Shops.with("de", 2, 12);
        Shops.wear(shop, 9);
        Check.same("d is empty", 0, shop.clear('d'));
        Check.same("two of d are in e", 2, shop.clear('e'));
        Check.same("none then", 0, shop.clear('e'));
        Check.sign("home", 'd', shop.channelOf(1));
        Check.text("e", "2 3", Shops.order(shop, 'e'));
        Check.text("d", "0 1", Shops.order(shop, 'd'));
        for (char wrong : Shops.NO_LETTERS) {
            Check.refused("letter " + (int) wrong, Shops.ARGUMENT, () -> shop.clear(wrong));
        }
    }

    /** A shop whose channel e holds 0 1 2 3, of which 0 and 1 are of d. */
    private static HotMetalShop othersInFront() {
        HotMetalShop shop = Shops.with("de", 2, 12);
        Shops.wear(shop, 9);
        Shops.line(shop, "ee");
        shop.tick(1);
        shop.drop();
        shop.tick(6);
        return shop;
    }

    private static void clearWithoutRoom() {
        HotMetalShop shop = othersInFront();
        shop.addMatrices('d', 12);
        Check.same("two of d are in e", 2, shop.clear('e'));
        Check.same("they stay", 4, shop.channel('e'));
        Check.sign("they stay", 'e', shop.channelOf(0));
        Check.text("e", "0 1 2 3", Shops.order(shop, 'e'));
    }

    private static void clearWithRoomForOne() {
        HotMetalShop shop = othersInFront();
        shop.addMatrices('d', 11);
        Check.same("two of d are in e", 2, shop.clear('e'));
        Check.text("e", "1 2 3", Shops.order(shop, 'e'));
        Check.text("d", "4 5 6 7 8 9 10 11 12 13 14 0", Shops.order(shop, 'd'));
    }

    private static void isJammed() {
        HotMetalShop shop = new HotMetalShop();
        shop.addMatrices('a', 12);
        shop.addMatrices('j', 1);
        Shops.line(shop, "aj");
        shop.addMatrices('a', 1);
        shop.drop();
        shop.tick(4);
        Check.no("it is not due", shop.isJammed());
        shop.tick(1);
        Check.yes("a is full", shop.isJammed());
        Check.sign("it waits", 'r', shop.placeOf(0));
        shop.tick(1);
        Check.sign("j waits behind it", 'r', shop.placeOf(12));
        Check.same("j has room", 0, shop.channel('j'));
        shop.key('a');
        Check.yes("until a tick begins", shop.isJammed());
        shop.tick(1);
        Check.no("with room", shop.isJammed());
        Check.sign("a is home", 'm', shop.placeOf(0));
        Check.sign("j is home", 'm', shop.placeOf(12));
        Check.text("a", "2 3 4 5 6 7 8 9 10 11 13 0", Shops.order(shop, 'a'));
    }

    private static void jamOrder() {
        HotMetalShop shop = turned();
        Shops.line(shop, "aaaa");
        shop.addMatrices('a', 12);
        shop.drop();
        shop.tick(20);
        Check.yes("all wait", shop.isJammed());
        Shops.line(shop, "aaa");
        shop.tick(1);
        Check.yes("one waits", shop.isJammed());
        Check.sign("the last one", 'r', shop.placeOf(1));
        Shops.line(shop, "a");
        shop.tick(1);
        Check.no("none waits", shop.isJammed());
        Check.text("a", "8 9 10 11 12 13 14 15 2 3 0 1", Shops.order(shop, 'a'));
    }
}
