/** Promises 2 to 11: the calls about matrices that are refused, and those that are just not. */
final class MatrixRefusals {
    private MatrixRefusals() {
    }

    static void run() {
        Check.test("2 throws IllegalArgumentException: no such letter", MatrixRefusals::addMatricesOfNoLetter);
        Check.test("2 throws IllegalArgumentException: 1 to 12", MatrixRefusals::addTooManyAtOnce);
        Check.test("2 throws IllegalStateException: more than 12 in the channel", MatrixRefusals::addTooManyToChannel);
        Check.test("2 throws IllegalStateException: more than 12, those astray among them",
                MatrixRefusals::addToAstray);
        Check.test("2 throws IllegalStateException: more than 60 in all", MatrixRefusals::addTooManyInAll);
        Check.test("3 throws IndexOutOfBoundsException: no such matrix",
                () -> noMatrix(shop -> shop::letterOf));
        Check.test("4 throws IndexOutOfBoundsException: no such matrix",
                () -> noMatrix(shop -> shop::placeOf));
        Check.test("5 throws IndexOutOfBoundsException: no such matrix",
                () -> noMatrix(shop -> shop::channelOf));
        Check.test("5 throws NoSuchElementException: it is in none",
                () -> inNoChannel(Shops.ELEMENT, shop -> shop::channelOf));
        Check.test("6 throws IndexOutOfBoundsException: no such matrix",
                () -> noMatrix(shop -> shop::wearOf));
        Check.test("7 throws IndexOutOfBoundsException: no such matrix",
                () -> noMatrix(shop -> shop::mend));
        Check.test("7 throws UnsupportedOperationException: it is in no channel",
                () -> inNoChannel(Shops.UNSUPPORTED, shop -> shop::mend));
        Check.test("7 throws UnsupportedOperationException: nothing is mended", MatrixRefusals::mendOutside);
        Check.test("8 throws IllegalArgumentException: no such letter", MatrixRefusals::channelOfNoLetter);
        Check.test("9 throws IllegalArgumentException: no such letter", MatrixRefusals::frontOfNoLetter);
        Check.test("9 throws NoSuchElementException: it is empty", MatrixRefusals::frontOfEmpty);
        Check.test("10 throws IllegalArgumentException: no such letter", MatrixRefusals::clearNoLetter);
    }

    private interface MatrixCall {
        Check.NumberCall on(HotMetalShop shop);
    }

    private static void addMatricesOfNoLetter() {
        HotMetalShop shop = new HotMetalShop();
        Check.noLetters(shop, letter -> shop.addMatrices(letter, 1));
        Check.same("the first letter", 1, shop.addMatrices('a', 1));
        Check.same("the last letter", 2, shop.addMatrices('j', 1));
        Check.noLetters(shop, letter -> shop.addMatrices(letter, 1));
    }

    private static void addTooManyAtOnce() {
        HotMetalShop shop = new HotMetalShop();
        Check.noNumbers(shop, Shops.ARGUMENT, many -> shop.addMatrices('a', many), 0, 13, -1, -12);
        Check.same("1", 1, shop.addMatrices('a', 1));
        Check.same("12", 13, shop.addMatrices('b', 12));
    }

    private static void addTooManyToChannel() {
        HotMetalShop shop = new HotMetalShop();
        shop.addMatrices('a', 11);
        Check.refused(shop, "13", Shops.STATE, () -> shop.addMatrices('a', 2));
        Check.same("12", 12, shop.addMatrices('a', 1));
        Check.refused(shop, "13", Shops.STATE, () -> shop.addMatrices('a', 1));
        Check.refused(shop, "24", Shops.STATE, () -> shop.addMatrices('a', 12));
        Check.same("another channel", 24, shop.addMatrices('b', 12));
    }

    private static void addToAstray() {
        HotMetalShop shop = Shops.astray();
        Check.refused(shop, "13 in e, with two of d", Shops.STATE, () -> shop.addMatrices('e', 11));
        Check.same("12 in e, with two of d", 12, shop.addMatrices('e', 10));
        Check.same("12 in d, without these", 24, shop.addMatrices('d', 12));
    }

    private static void addTooManyInAll() {
        HotMetalShop shop = new HotMetalShop();
        for (char letter = 'a'; letter <= 'd'; letter++) {
            shop.addMatrices(letter, 12);
        }
        shop.addMatrices('e', 11);
        Check.refused(shop, "61", Shops.STATE, () -> shop.addMatrices('f', 2));
        Check.same("60", 60, shop.addMatrices('f', 1));
        Check.refused(shop, "61", Shops.STATE, () -> shop.addMatrices('f', 1));
        shop.key('a');
        Check.refused(shop, "61, one in the line", Shops.STATE, () -> shop.addMatrices('a', 1));
    }

    /** Without matrices, with some, and with as many as there can be: the last one is there, the next one is not. */
    private static void noMatrix(MatrixCall call) {
        HotMetalShop shop = new HotMetalShop();
        Check.noNumbers(shop, Shops.INDEX, call.on(shop), 0, -1, 1);
        shop.addMatrices('b', 2);
        shop.addMatrices('a', 1);
        call.on(shop).of(0);
        call.on(shop).of(2);
        Check.noNumbers(shop, Shops.INDEX, call.on(shop), 3, -1, 60);
        HotMetalShop full = new HotMetalShop();
        for (char letter = 'f'; letter <= 'j'; letter++) {
            full.addMatrices(letter, 12);
        }
        call.on(full).of(0);
        call.on(full).of(59);
        Check.noNumbers(full, Shops.INDEX, call.on(full), 60, -1);
    }

    private static void inNoChannel(Class<? extends RuntimeException> kind, MatrixCall call) {
        HotMetalShop shop = Shops.with("b", 1, 12);
        call.on(shop).of(0);
        shop.key('b');
        Check.refused(shop, "falling", kind, () -> call.on(shop).of(0));
        shop.tick(1);
        Check.refused(shop, "in the line", kind, () -> call.on(shop).of(0));
        shop.drop();
        Check.refused(shop, "running", kind, () -> call.on(shop).of(0));
        shop.tick(4);
        Check.refused(shop, "in the last tick of running", kind, () -> call.on(shop).of(0));
        shop.tick(1);
        call.on(shop).of(0);
        HotMetalShop jammed = Shops.jammed();
        Check.refused(jammed, "waiting", kind, () -> call.on(jammed).of(0));
        Check.refused(jammed, "waiting behind it", kind, () -> call.on(jammed).of(12));
        call.on(Shops.astray()).of(0);
    }

    private static void mendOutside() {
        HotMetalShop shop = Shops.astray();
        shop.key('e');
        Check.refused(shop, "falling", Shops.UNSUPPORTED, () -> shop.mend(0));
        Check.same("its wear", 9, shop.wearOf(0));
        Check.same("one in a channel", 9, shop.mend(1));
    }

    private static void channelOfNoLetter() {
        HotMetalShop shop = Shops.with("aj", 3, 12);
        Check.noLetters(shop, shop::channel);
        Check.same("the first letter", 3, shop.channel('a'));
        Check.same("the last letter", 3, shop.channel('j'));
    }

    private static void frontOfNoLetter() {
        HotMetalShop shop = Shops.with("aj", 3, 12);
        Check.noLetters(shop, shop::front);
        Check.same("the first letter", 0, shop.front('a'));
        Check.same("the last letter", 3, shop.front('j'));
    }

    private static void frontOfEmpty() {
        HotMetalShop shop = new HotMetalShop();
        for (char letter = 'a'; letter <= 'j'; letter++) {
            char empty = letter;
            Check.refused(shop, "empty " + letter, Shops.ELEMENT, () -> shop.front(empty));
        }
        shop.addMatrices('a', 1);
        Check.same("one", 0, shop.front('a'));
        Check.refused(shop, "the next channel", Shops.ELEMENT, () -> shop.front('b'));
        shop.key('a');
        Check.refused(shop, "empty again", Shops.ELEMENT, () -> shop.front('a'));
        HotMetalShop astray = Shops.astray();
        Check.refused(astray, "its own are astray", Shops.ELEMENT, () -> astray.front('d'));
    }

    private static void clearNoLetter() {
        HotMetalShop shop = Shops.with("aj", 3, 12);
        Check.noLetters(shop, shop::clear);
        Check.same("the first letter", 0, shop.clear('a'));
        Check.same("the last letter", 0, shop.clear('j'));
        HotMetalShop astray = Shops.astray();
        Check.noLetters(astray, astray::clear);
    }
}
