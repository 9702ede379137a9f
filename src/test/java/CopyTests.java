/** Promises 26 to 30: copy and its paragraphs. */
final class CopyTests {
    private CopyTests() {
    }

    static void run() {
        Check.test("26: type", CopyTests::type);
        Check.test("26: type takes 60 signs", CopyTests::typeFull);
        Check.test("27: compose takes as many words as there can be", CopyTests::composeLines);
        Check.test("27: compose spreads its lines", CopyTests::composeSpaces);
        Check.test("27: compose lets just the ticks go by that it needs", CopyTests::composeTicks);
        Check.test("27: compose waits for matrices that come home meanwhile", CopyTests::composeWaits);
        Check.test("27: compose casts as sending does", CopyTests::composeCasts);
        Check.test("27: compose leaves a blank at the end aside", CopyTests::composeBlankAtEnd);
        Check.test("27: compose refuses", CopyTests::composeRefuses);
        Check.test("27: compose refuses above the tick 2000", CopyTests::composeTooLate);
        Check.test("28: stops as no word fits", CopyTests::stopsNoWord);
        Check.test("28: stops as a line is too loose", CopyTests::stopsLoose);
        Check.test("28: stops as a channel is empty", CopyTests::stopsEmpty);
        Check.test("28: an empty channel is met behind the ticks", CopyTests::stopsEmptyInTime);
        Check.test("28: stops as the matrices that came do not fill", CopyTests::stopsFill);
        Check.test("28: stops with too little metal", CopyTests::stopsMetal);
        Check.test("28: stops as the pot squirts", CopyTests::stopsSquirt);
        Check.test("28: causeOf knows its paragraphs", CopyTests::causeOf);
        Check.test("29, 30: lines and slugAt", CopyTests::linesAndSlugs);
    }

    private static HotMetalShop shop() {
        return Shops.with("abcdefghij", 6, 12);
    }

    private static void type() {
        HotMetalShop shop = new HotMetalShop();
        Check.refused("a blank at the beginning", Shops.UNSUPPORTED, () -> shop.type(' '));
        Check.same("a", 1, shop.type('a'));
        Check.same("j", 2, shop.type('j'));
        Check.same("blank", 3, shop.type(' '));
        Check.refused("a blank behind a blank", Shops.UNSUPPORTED, () -> shop.type(' '));
        for (char wrong : new char[] {'`', 'k', 'A', '-', (char) 0, (char) 31, (char) 33, (char) 160, (char) 65535}) {
            Check.refused("sign " + (int) wrong, Shops.ARGUMENT, () -> shop.type(wrong));
        }
        Check.same("b", 4, shop.type('b'));
    }

    private static void typeFull() {
        HotMetalShop shop = new HotMetalShop();
        for (int i = 1; i < 60; i++) {
            Check.same("signs", i, shop.type('a'));
        }
        Check.same("60", 60, shop.type(' '));
        Check.refused("61", Shops.STATE, () -> shop.type('a'));
        Check.refused("a blank behind a blank", Shops.UNSUPPORTED, () -> shop.type(' '));
        Check.refused("no such sign", Shops.ARGUMENT, () -> shop.type('k'));
        shop.compose();
        Check.same("a new copy", 1, shop.type('a'));
        for (int i = 2; i <= 60; i++) {
            shop.type('a');
        }
        Check.refused("a blank as sign 61", Shops.STATE, () -> shop.type(' '));
    }

    private static void composeLines() {
        HotMetalShop shop = shop();
        Check.same("first", 0, Shops.compose(shop, "d d a"));
        // d d fills 12 with a wedge of 2, and a does not fit behind it
        Check.text("lines", "d d|a|", Shops.paragraph(shop, 0));
        Check.sign("cause", '-', shop.causeOf(0));
        Check.same("all in the tick 0", 0, shop.now());
        Check.same("a new copy begins", 1, shop.type('a'));
        Check.same("second", 1, shop.compose());
        Check.text("lines", "a|", Shops.paragraph(shop, 1));
        Check.same("slug", 3, shop.slugs());
        // one more than fits: 3 + 2 + 3 is 8, and 2 + 3 more are 13
        Check.same("third", 2, Shops.compose(shop, "b b b"));
        Check.text("lines", "b b|b|", Shops.paragraph(shop, 2));
        Check.same("fourth", 3, Shops.compose(shop, "f f a"));
        Check.text("just 12", "f f a|", Shops.paragraph(shop, 3));
        Check.yes("isSound", shop.isSound());
    }

    private static void composeSpaces() {
        HotMetalShop shop = Shops.with("d", 6, 20);
        Shops.compose(shop, "d d d d d");
        Check.text("lines", "d d d|d d|", Shops.paragraph(shop, 0));
        Check.same("the first one gets 1 more", 3, shop.spaceAt(0, 1));
        Check.same("the second one", 2, shop.spaceAt(0, 3));
        Check.same("2 ahead of quads", 2, shop.spaceAt(1, 1));
        Check.same("quads are not told", 3, shop.lengthOf(1));
        Check.text("metal as much as the measure", "4 4 32", Shops.metal(shop, 's'));
        Check.same("ems", 40, shop.ems());
        Check.yes("isSound", shop.isSound());
    }

    private static void composeTicks() {
        String[] copies = {"a", "b", "c", "ad", "ba", "ab", "bc", "cb", "ca", "cba", "c a", "abc", "bca", "cbc", "b b"};
        int[] ticks = {0, 1, 2, 0, 1, 1, 2, 2, 2, 2, 2, 2, 2, 3, 2};
        for (int i = 0; i < copies.length; i++) {
            HotMetalShop shop = shop();
            Shops.compose(shop, copies[i]);
            Check.text("reads", copies[i] + "|", Shops.paragraph(shop, 0));
            Check.same("ticks of " + copies[i], ticks[i], shop.now());
        }
        HotMetalShop shop = Shops.with("bd", 4, 12);
        Shops.compose(shop, "b b b");
        // b in 0, comes in 1; blank in 1, b in 1, comes in 2; next line: b in 2, comes in 3
        Check.same("line by line", 3, shop.now());
        Check.sign("the first line runs since 2", 'r', shop.placeOf(0));
        shop.tick(4);
        Check.sign("home in 7", 'm', shop.placeOf(0));
        Check.sign("not home in 7", 'r', shop.placeOf(1));
    }

    private static void composeWaits() {
        HotMetalShop shop = Shops.with("ac", 1, 12);
        shop.key('a');
        shop.drop();
        shop.tick(3);
        // c falls until 5, and a comes home in 5
        Shops.compose(shop, "ca");
        Check.sign("cause", '-', shop.causeOf(0));
        Check.text("lines", "ca|", Shops.paragraph(shop, 0));
        Check.same("now", 5, shop.now());
    }

    private static void composeCasts() {
        HotMetalShop shop = shop();
        shop.feed(0, 0, 300);
        shop.setHeat(200);
        shop.tick(17);
        Check.same("heat", 246, shop.heat());
        Shops.compose(shop, "d d a");
        Check.yes("cold", shop.isCold(0));
        Check.same("not paid", 0, shop.ems());
        Check.same("colder by 5 twice", 236, shop.heat());
        Check.same("wear", 1, shop.wearOf(18));
        Check.sign("runs home", 'r', shop.placeOf(18));
        Check.same("the line is empty", 0, shop.signs());
        shop.tick(5);
        Check.sign("home", 'm', shop.placeOf(18));
        Check.sign("a tick later", 'r', shop.placeOf(19));
        Check.sign("the next line begins anew", 'm', shop.placeOf(0));
    }

    private static void composeBlankAtEnd() {
        HotMetalShop shop = shop();
        Shops.compose(shop, "d d ");
        Check.text("lines", "d d|", Shops.paragraph(shop, 0));
        Shops.compose(shop, "a ");
        Check.text("lines", "a|", Shops.paragraph(shop, 1));
        // with a blank told, a would not be last, and be too loose
        Check.sign("cause", '-', shop.causeOf(1));
    }

    private static void composeRefuses() {
        HotMetalShop shop = shop();
        Check.refused("no copy", Shops.UNSUPPORTED, shop::compose);
        shop.type('a');
        shop.wedge();
        Check.refused("a wedge is in the line", Shops.UNSUPPORTED, shop::compose);
        shop.drop();
        shop.key('c');
        Check.refused("c falls", Shops.UNSUPPORTED, shop::compose);
        shop.tick(2);
        shop.drop();
        Check.same("the copy was kept", 2, shop.type('a'));
        Check.same("first", 0, shop.compose());
        Check.refused("the copy is empty", Shops.UNSUPPORTED, shop::compose);
        for (int i = 1; i < 8; i++) {
            Check.same("paragraph", i, Shops.compose(shop, "ddd"));
        }
        shop.type('a');
        Check.refused("8 paragraphs", Shops.STATE, shop::compose);
        shop.wedge();
        Check.refused("the line is looked at first", Shops.UNSUPPORTED, shop::compose);
        Check.same("the copy was kept", 2, shop.type('a'));
        Check.refused("no paragraph 8", Shops.INDEX, () -> shop.causeOf(8));
    }

    private static void composeTooLate() {
        HotMetalShop shop = shop();
        Shops.ticks(shop, 2000);
        Check.same("in the tick 2000", 0, Shops.compose(shop, "a"));
        shop.tick(1);
        Check.refused("without copy", Shops.UNSUPPORTED, shop::compose);
        shop.type('a');
        Check.refused("in the tick 2001", Shops.STATE, shop::compose);
        Check.same("the copy was kept", 2, shop.type('a'));
    }

    private static void stopsNoWord() {
        HotMetalShop shop = shop();
        Shops.compose(shop, "ddd a");
        Check.sign("at once", 'w', shop.causeOf(0));
        Check.same("lines", 0, shop.lines(0));
        Check.same("no ticks", 0, shop.now());
        Check.sign("nothing fell", 'm', shop.placeOf(18));
        Shops.compose(shop, "d d ddd");
        Check.sign("in the second line", 'w', shop.causeOf(1));
        Check.text("lines", "d d|", Shops.paragraph(shop, 1));
        Check.same("a new copy begins", 1, shop.type('a'));
        // with the a that was typed: 13 wide, the last word
        Shops.compose(shop, "aaaab");
        Check.sign("too wide by 1", 'w', shop.causeOf(2));
        HotMetalShop other = Shops.with("a", 6, 12);
        Shops.compose(other, "aaaaaa");
        Check.sign("just 12", '-', other.causeOf(0));
    }

    private static void stopsLoose() {
        HotMetalShop shop = shop();
        Shops.compose(shop, "a b d");
        // a and b want 7 of one wedge
        Check.sign("a wedge of 7", 'l', shop.causeOf(0));
        Check.same("lines", 0, shop.lines(0));
        Check.same("no ticks", 0, shop.now());
        Check.sign("nothing fell", 'm', shop.placeOf(0));
        Shops.compose(shop, "b b b");
        Check.sign("a wedge of 6", '-', shop.causeOf(1));
        Check.same("a wedge of 6", 6, shop.spaceAt(0, 1));
        HotMetalShop other = shop();
        Shops.compose(other, "d d dd d");
        Check.sign("one word, and not the last", 'l', other.causeOf(0));
        Check.text("lines", "d d|", Shops.paragraph(other, 0));
        HotMetalShop third = shop();
        Shops.compose(third, "dda a");
        Check.text("one word that fills", "dda|a|", Shops.paragraph(third, 0));
    }

    private static void stopsEmpty() {
        HotMetalShop shop = Shops.with("b", 1, 12);
        Shops.compose(shop, "bc");
        Check.sign("c is empty", 'e', shop.causeOf(0));
        Check.same("lines", 0, shop.lines(0));
        Check.same("b is waited for", 1, shop.now());
        Check.same("the line is empty", 0, shop.signs());
        Check.same("no wear", 0, shop.wearOf(0));
        Check.same("not colder", 280, shop.heat());
        Check.text("no metal", "30 30 240", Shops.metal(shop, 'p'));
        Check.sign("b runs", 'r', shop.placeOf(0));
        shop.tick(4);
        Check.sign("b runs", 'r', shop.placeOf(0));
        shop.tick(1);
        Check.sign("b is home", 'm', shop.placeOf(0));
        Shops.compose(shop, "c");
        Check.sign("at once", 'e', shop.causeOf(1));
        Check.same("no ticks", 6, shop.now());
        Check.same("a new copy begins", 1, shop.type('a'));
        HotMetalShop second = Shops.with("d", 3, 12);
        Shops.compose(second, "d d d a");
        Check.text("what was cast stays", "d d|", Shops.paragraph(second, 0));
        Check.sign("in the second line", 'e', second.causeOf(0));
        Check.same("sent", 1, second.wearOf(0));
        Check.same("run home", 0, second.wearOf(2));
    }

    private static void stopsEmptyInTime() {
        HotMetalShop shop = Shops.with("ab", 1, 12);
        shop.key('a');
        shop.drop();
        shop.tick(3);
        // b falls until 4, and a comes home in 5
        Shops.compose(shop, "ba");
        Check.sign("cause", 'e', shop.causeOf(0));
        Check.same("now", 4, shop.now());
    }

    /** A shop with 12 * 9 of lead, all in slugs then, whose e begins with two of d. */
    private static HotMetalShop astrayShop(int lead) {
        HotMetalShop shop = new HotMetalShop();
        shop.addMatrices('a', 2);
        shop.addMatrices('d', 2);
        shop.setMeasure(12);
        shop.feed(0, 0, lead);
        Shops.wear(shop, 9);
        shop.addMatrices('e', 2);
        return shop;
    }

    private static void stopsFill() {
        HotMetalShop shop = astrayShop(108);
        int now = shop.now();
        Shops.compose(shop, "a e e");
        // a, d and d are 12 with no room for wedges; and there is no metal either
        Check.sign("cause", 'f', shop.causeOf(0));
        Check.same("lines", 0, shop.lines(0));
        Check.same("e comes 1 later, twice", now + 2, shop.now());
        Check.same("no wear", 9, shop.wearOf(2));
        Check.same("no wear", 0, shop.wearOf(0));
        Check.sign("they run", 'r', shop.placeOf(2));
        Check.same("the line is empty", 0, shop.signs());
        shop.tick(7);
        Check.sign("they are home", 'e', shop.channelOf(3));
        HotMetalShop other = astrayShop(120);
        Shops.compose(other, "e e");
        Check.sign("just 12", '-', other.causeOf(0));
        Check.text("it reads as the matrices", "d d|", Shops.paragraph(other, 0));
        Check.yes("isSound", other.isSound());
        HotMetalShop loose = new HotMetalShop();
        loose.addMatrices('c', 2);
        loose.setMeasure(12);
        loose.feed(500, 500, 500);
        for (int i = 0; i < 9; i++) {
            Shops.line(loose, "cc ");
            loose.tick(2);
            loose.send();
            loose.tick(6);
        }
        // c c in d d: 8 are wanted to 12 by a wedge of 4
        Shops.compose(loose, "d d d");
        Check.text("narrower", "c c|", Shops.paragraph(loose, 0));
        Check.same("narrower", 4, loose.spaceAt(9, 1));
        HotMetalShop narrow = new HotMetalShop();
        narrow.addMatrices('a', 2);
        narrow.addMatrices('b', 2);
        narrow.setMeasure(12);
        narrow.feed(500, 500, 500);
        for (int i = 0; i < 9; i++) {
            Shops.line(narrow, "aa  ");
            narrow.send();
            narrow.tick(6);
        }
        Shops.line(narrow, "bb");
        narrow.tick(1);
        narrow.drop();
        narrow.tick(6);
        // a a from b b want 8 of one wedge
        Shops.compose(narrow, "b b b");
        Check.sign("too loose by the matrices that came", 'f', narrow.causeOf(0));
        Check.same("lines", 0, narrow.lines(0));
    }

    private static void stopsMetal() {
        HotMetalShop shop = new HotMetalShop();
        shop.addMatrices('d', 4);
        shop.setMeasure(12);
        shop.feed(0, 0, 23);
        Shops.compose(shop, "d d d d");
        Check.sign("cause", 'm', shop.causeOf(0));
        Check.text("lines", "d d|", Shops.paragraph(shop, 0));
        Check.text("pot", "0 0 11", Shops.metal(shop, 'p'));
        Check.same("colder once", 275, shop.heat());
        Check.same("no wear", 0, shop.wearOf(2));
        Check.sign("they run", 'r', shop.placeOf(2));
        shop.tick(10);
        shop.feed(0, 0, 1);
        Shops.compose(shop, "d");
        Check.sign("just 12", '-', shop.causeOf(1));
    }

    private static void stopsSquirt() {
        HotMetalShop shop = Shops.with("d", 4, 12);
        shop.setHeat(350);
        shop.tick(11);
        Shops.compose(shop, "d d d d");
        Check.sign("cause", 'q', shop.causeOf(0));
        Check.same("lines", 0, shop.lines(0));
        Check.same("slugs", 0, shop.slugs());
        Check.same("colder once", 297, shop.heat());
        Check.same("floor", 10, shop.metal('l', 'f'));
        Check.same("wear", 1, shop.wearOf(0));
        Check.same("not set", 0, shop.wearOf(2));
        Check.sign("run home", 'r', shop.placeOf(1));
        Check.sign("not set", 'm', shop.placeOf(2));
        Check.same("a new copy begins", 1, shop.type('a'));
        Check.yes("isSound", shop.isSound());
    }

    private static void causeOf() {
        HotMetalShop shop = shop();
        Check.refused("0", Shops.INDEX, () -> shop.causeOf(0));
        Shops.compose(shop, "ddd");
        Shops.compose(shop, "a");
        Check.sign("0", 'w', shop.causeOf(0));
        Check.sign("1", '-', shop.causeOf(1));
        Check.refused("-1", Shops.INDEX, () -> shop.causeOf(-1));
        Check.refused("2", Shops.INDEX, () -> shop.causeOf(2));
    }

    private static void linesAndSlugs() {
        HotMetalShop shop = shop();
        Check.refused("lines(0)", Shops.INDEX, () -> shop.lines(0));
        Check.refused("slugAt(0, 0)", Shops.INDEX, () -> shop.slugAt(0, 0));
        Shops.line(shop, "dda");
        shop.send();
        Shops.compose(shop, "d d a");
        Check.same("lines", 2, shop.lines(0));
        Check.same("slug", 1, shop.slugAt(0, 0));
        Check.same("slug", 2, shop.slugAt(0, 1));
        Check.refused("lines(-1)", Shops.INDEX, () -> shop.lines(-1));
        Check.refused("lines(1)", Shops.INDEX, () -> shop.lines(1));
        Check.refused("slugAt(-1, 0)", Shops.INDEX, () -> shop.slugAt(-1, 0));
        Check.refused("slugAt(1, 0)", Shops.INDEX, () -> shop.slugAt(1, 0));
        Check.refused("slugAt(0, -1)", Shops.INDEX, () -> shop.slugAt(0, -1));
        Check.refused("slugAt(0, 2)", Shops.INDEX, () -> shop.slugAt(0, 2));
    }
}
