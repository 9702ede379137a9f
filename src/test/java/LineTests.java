/** Promises 12 to 19: the line. */
final class LineTests {
    private LineTests() {
    }

    static void run() {
        Check.test("12: setMeasure", LineTests::setMeasure);
        Check.test("13: key lets the front matrix fall", LineTests::key);
        Check.test("13: key, and what falls as many ticks as its channel tells", LineTests::keyDelays);
        Check.test("13: key falls whatever letter it is of", LineTests::keyAstray);
        Check.test("13, 14: a line has 30 signs at most", LineTests::fullLine);
        Check.test("14: wedge", LineTests::wedge);
        Check.test("15: signs", LineTests::signs);
        Check.test("16: signAt in the order of coming", LineTests::signAt);
        Check.test("17: wanting", LineTests::wanting);
        Check.test("18: send casts a slug", LineTests::send);
        Check.test("18: send refuses a line that does not fill", LineTests::sendRefusesFill);
        Check.test("18: send refuses what falls", LineTests::sendRefusesFalling);
        Check.test("18: send refuses with too little metal", LineTests::sendRefusesMetal);
        Check.test("18: send takes the parts of the pot", LineTests::sendParts);
        Check.test("18: send takes tin for lead", LineTests::sendWithoutLead);
        Check.test("18: send squirts above 300", LineTests::sendSquirts);
        Check.test("18: send runs the letters home", LineTests::sendRunsHome);
        Check.test("18: send with wedges alone", LineTests::sendWedges);
        Check.test("19: drop", LineTests::drop);
    }

    private static void setMeasure() {
        HotMetalShop shop = Shops.with("ab", 2, 12);
        Check.same("before", 12, shop.setMeasure(60));
        Check.same("before", 60, shop.setMeasure(25));
        Check.same("wanting", 25, shop.wanting());
        for (int wrong : new int[] {11, 61, 0, -12, Integer.MAX_VALUE, Integer.MIN_VALUE}) {
            Check.refused("measure " + wrong, Shops.ARGUMENT, () -> shop.setMeasure(wrong));
        }
        shop.wedge();
        Check.refused("a wedge is there", Shops.UNSUPPORTED, () -> shop.setMeasure(30));
        Check.refused("the measure is looked at first", Shops.ARGUMENT, () -> shop.setMeasure(61));
        shop.drop();
        shop.key('b');
        Check.refused("a letter falls", Shops.UNSUPPORTED, () -> shop.setMeasure(30));
        shop.tick(1);
        Check.refused("a letter is there", Shops.UNSUPPORTED, () -> shop.setMeasure(30));
        shop.drop();
        Check.same("nothing was set", 25, shop.setMeasure(30));
        Check.same("a new shop's", 30, new HotMetalShop().setMeasure(12));
    }

    private static void key() {
        HotMetalShop shop = new HotMetalShop();
        shop.addMatrices('b', 1);
        shop.addMatrices('a', 2);
        Check.same("a", 1, shop.key('a'));
        Check.same("a", 2, shop.key('a'));
        Check.same("b", 0, shop.key('b'));
        Check.refused("empty", Shops.STATE, () -> shop.key('a'));
        Check.same("signs", 3, shop.signs());
        for (char wrong : Shops.NO_LETTERS) {
            Check.refused("letter " + (int) wrong, Shops.ARGUMENT, () -> shop.key(wrong));
        }
    }

    private static void keyDelays() {
        for (char letter = 'a'; letter <= 'j'; letter++) {
            HotMetalShop shop = new HotMetalShop();
            shop.addMatrices(letter, 1);
            shop.key(letter);
            for (int falls = (letter - 'a') % 3; falls > 0; falls--) {
                Check.refused(letter + " falls", Shops.UNSUPPORTED, shop::drop);
                shop.tick(1);
            }
            Check.same(letter + " is there", 1, shop.drop());
        }
    }

    private static void keyAstray() {
        HotMetalShop shop = Shops.with("d", 2, 12);
        Shops.wear(shop, 9);
        Check.refused("d is empty", Shops.STATE, () -> shop.key('d'));
        Check.same("d falls from e", 0, shop.key('e'));
        Check.sign("it reads d", 'd', shop.signAt(0));
        Check.same("it is as wide as d", 7, shop.wanting());
        Check.refused("it falls as from e", Shops.UNSUPPORTED, shop::drop);
        shop.tick(1);
        Check.same("it is there", 1, shop.drop());
    }

    private static void fullLine() {
        HotMetalShop shop = new HotMetalShop();
        shop.addMatrices('c', 2);
        shop.key('c');
        for (int i = 2; i <= 30; i++) {
            Check.same("signs", i, shop.wedge());
        }
        Check.refused("wedge", Shops.UNSUPPORTED, shop::wedge);
        Check.refused("key", Shops.UNSUPPORTED, () -> shop.key('c'));
        Check.refused("key of an empty channel", Shops.UNSUPPORTED, () -> shop.key('a'));
        Check.refused("the letter is looked at first", Shops.ARGUMENT, () -> shop.key('k'));
        Check.same("signs", 30, shop.signs());
        Check.sign("nothing fell", 'm', shop.placeOf(1));
        Check.sign("the letter came last", 'c', shop.signAt(29));
    }

    private static void wedge() {
        HotMetalShop shop = new HotMetalShop();
        shop.addMatrices('c', 1);
        Check.same("one", 1, shop.wedge());
        shop.key('c');
        Check.same("with what falls", 3, shop.wedge());
        Check.text("at once", "  c", Shops.lineOf(shop));
        Check.same("wanting", 26, shop.wanting());
    }

    private static void signs() {
        HotMetalShop shop = new HotMetalShop();
        shop.addMatrices('c', 1);
        Check.same("none", 0, shop.signs());
        shop.key('c');
        Check.same("falling", 1, shop.signs());
        shop.wedge();
        Check.same("a wedge", 2, shop.signs());
        shop.tick(2);
        Check.same("all there", 2, shop.signs());
        shop.drop();
        Check.same("none", 0, shop.signs());
    }

    private static void signAt() {
        HotMetalShop shop = new HotMetalShop();
        for (char letter = 'a'; letter <= 'c'; letter++) {
            shop.addMatrices(letter, 3);
        }
        Shops.line(shop, "cba ");
        Check.text("by ticks", "a bc", Shops.lineOf(shop));
        shop.tick(1);
        Shops.line(shop, "ab");
        Check.text("in a tick by the order of telling", "a bacb", Shops.lineOf(shop));
        shop.tick(1);
        Shops.line(shop, " ");
        Check.text("behind those of its tick", "a bacb ", Shops.lineOf(shop));
        Check.refused("-1", Shops.INDEX, () -> shop.signAt(-1));
        Check.refused("7", Shops.INDEX, () -> shop.signAt(7));
        Check.refused("empty line", Shops.INDEX, () -> new HotMetalShop().signAt(0));
    }

    private static void wanting() {
        HotMetalShop shop = new HotMetalShop();
        int left = 60;
        shop.setMeasure(60);
        for (char letter = 'a'; letter <= 'j'; letter++) {
            shop.addMatrices(letter, 2);
            shop.key(letter);
            left -= 2 + (letter - 'a') % 4;
            Check.same("with " + letter, left, shop.wanting());
        }
        shop.wedge();
        Check.same("a wedge is none of them", 27, shop.wanting());
        HotMetalShop narrow = Shops.with("d", 3, 12);
        Shops.line(narrow, "ddd");
        Check.same("below 0", -3, narrow.wanting());
    }

    private static void send() {
        HotMetalShop shop = Shops.with("da", 3, 12);
        Shops.line(shop, "dda");
        Check.same("without a wedge", 0, shop.send());
        Check.same("the line is empty", 0, shop.signs());
        Check.same("wanting", 12, shop.wanting());
        Check.same("colder", 275, shop.heat());
        Check.same("slugs", 1, shop.slugs());
        Check.text("metal", "1 1 10", Shops.metal(shop, 's'));
        Check.same("ems", 12, shop.ems());
        Shops.line(shop, "da ");
        Check.same("with a wedge", 1, shop.send());
        Check.text("reads", "da ", Shops.slug(shop, 1));
        Check.same("colder", 270, shop.heat());
        Check.no("not cold", shop.isCold(1));
    }

    private static void sendRefusesFill() {
        HotMetalShop shop = Shops.with("abd", 4, 12);
        Check.refused("empty", Shops.UNSUPPORTED, shop::send);
        Shops.line(shop, "dd");
        Check.refused("too narrow without a wedge", Shops.UNSUPPORTED, shop::send);
        Shops.line(shop, " ");
        Check.same("a wedge of 2", 0, shop.send());
        shop.tick(10);
        Shops.line(shop, "dda ");
        Check.refused("no room for the wedge", Shops.UNSUPPORTED, shop::send);
        shop.drop();
        shop.tick(10);
        Shops.line(shop, "ddd");
        Check.refused("too wide", Shops.UNSUPPORTED, shop::send);
        shop.drop();
        shop.tick(10);
        Shops.line(shop, "aaa ");
        Check.same("a wedge of 6", 1, shop.send());
        shop.tick(10);
        Shops.line(shop, "d ");
        Check.refused("a wedge of 7", Shops.UNSUPPORTED, shop::send);
        Shops.line(shop, " ");
        Check.same("wedges of 4 and 3", 2, shop.send());
        Check.same("4", 4, shop.spaceAt(2, 1));
        Check.same("3", 3, shop.spaceAt(2, 2));
    }

    private static void sendRefusesFalling() {
        HotMetalShop shop = Shops.with("abd", 2, 12);
        Shops.line(shop, "dbaa");
        Check.same("it will fill", 0, shop.wanting());
        Check.refused("b falls", Shops.UNSUPPORTED, shop::send);
        shop.tick(1);
        Check.same("b is there", 0, shop.send());
        Check.text("reads", "daab", Shops.slug(shop, 0));
    }

    private static void sendRefusesMetal() {
        HotMetalShop shop = new HotMetalShop();
        shop.addMatrices('d', 2);
        shop.setMeasure(12);
        shop.feed(3, 3, 5);
        Shops.line(shop, "d");
        Check.refused("the line is looked at first", Shops.UNSUPPORTED, shop::send);
        Shops.line(shop, "d ");
        Check.refused("11 of metal", Shops.STATE, shop::send);
        Check.same("nothing was sent", 3, shop.signs());
        Check.same("nothing is colder", 280, shop.heat());
        shop.feed(0, 0, 1);
        Check.same("12 of metal", 0, shop.send());
        Check.text("pot", "0 0 0", Shops.metal(shop, 'p'));
        Check.text("slugs", "3 3 6", Shops.metal(shop, 's'));
    }

    private static void sendParts() {
        HotMetalShop shop = new HotMetalShop();
        shop.addMatrices('d', 4);
        shop.setMeasure(12);
        shop.feed(59, 33, 8);
        Shops.line(shop, "d d");
        shop.send();
        // 12 * 59 / 100 = 7.08, 12 * 33 / 100 = 3.96
        Check.text("slugs", "7 3 2", Shops.metal(shop, 's'));
        Check.text("pot", "52 30 6", Shops.metal(shop, 'p'));
        Shops.line(shop, "d d");
        shop.send();
        // 12 * 52 / 88 = 7.09, 12 * 30 / 88 = 4.09
        Check.text("slugs", "14 7 3", Shops.metal(shop, 's'));
    }

    private static void sendWithoutLead() {
        HotMetalShop shop = new HotMetalShop();
        shop.addMatrices('d', 2);
        shop.setMeasure(12);
        shop.feed(7, 5, 1);
        Shops.line(shop, "d d");
        shop.send();
        // 12 * 7 / 13 = 6.5, 12 * 5 / 13 = 4.6: of the 2 that are left, 1 is lead, 1 more tin
        Check.text("slugs", "7 4 1", Shops.metal(shop, 's'));
        Check.text("pot", "0 1 0", Shops.metal(shop, 'p'));
    }

    private static void sendSquirts() {
        HotMetalShop shop = Shops.with("d", 4, 12);
        shop.setHeat(350);
        shop.tick(10);
        Shops.line(shop, "d d");
        Check.same("not at 300", 0, shop.send());
        shop.tick(3);
        Check.same("heat", 301, shop.heat());
        Shops.line(shop, "d d");
        Check.same("above 300", -1, shop.send());
        Check.same("no slug", 1, shop.slugs());
        Check.same("no pay", 12, shop.ems());
        Check.same("colder", 296, shop.heat());
        Check.same("wear", 1, shop.wearOf(2));
        Check.sign("running", 'r', shop.placeOf(2));
        Check.same("the line is empty", 0, shop.signs());
        // 1 of tin and 1 of antimony burnt in the tick 10; 12 * 28 / 286 = 1.2
        Check.text("floor", "1 1 10", Shops.metal(shop, 'f'));
        Check.text("slugs", "1 1 10", Shops.metal(shop, 's'));
        Check.text("pot", "27 27 220", Shops.metal(shop, 'p'));
        Check.yes("isSound", shop.isSound());
        shop.tick(4);
        Check.sign("still running", 'r', shop.placeOf(2));
        shop.tick(1);
        Check.sign("home", 'm', shop.placeOf(2));
    }

    /** The matrices 0 and 1, the letters of a line that has just been left, come home 5 and 6 ticks later. */
    private static void seeHome(HotMetalShop shop) {
        shop.tick(4);
        Check.sign("0 runs", 'r', shop.placeOf(0));
        shop.tick(1);
        Check.sign("0 is home", 'm', shop.placeOf(0));
        Check.sign("1 runs", 'r', shop.placeOf(1));
        shop.tick(1);
        Check.sign("1 is home", 'm', shop.placeOf(1));
    }

    private static void sendRunsHome() {
        HotMetalShop shop = Shops.with("d", 2, 12);
        Shops.line(shop, " dd");
        shop.tick(7);
        shop.send();
        seeHome(shop);
    }

    private static void sendWedges() {
        HotMetalShop shop = Shops.with("a", 1, 12);
        Shops.line(shop, " ");
        Check.refused("one wedge", Shops.UNSUPPORTED, shop::send);
        Shops.line(shop, " ");
        Check.same("two wedges", 0, shop.send());
        Check.text("reads", "  ", Shops.slug(shop, 0));
        Check.same("6", 6, shop.spaceAt(0, 1));
        Check.yes("isSound", shop.isSound());
    }

    private static void drop() {
        HotMetalShop shop = Shops.with("db", 2, 12);
        Check.same("empty", 0, shop.drop());
        Shops.line(shop, "d d");
        Check.same("signs", 3, shop.drop());
        Check.same("the line is empty", 0, shop.signs());
        Check.same("heat", 280, shop.heat());
        Check.same("wear", 0, shop.wearOf(0));
        Check.same("slugs", 0, shop.slugs());
        Check.text("metal", "30 30 240", Shops.metal(shop, 'p'));
        seeHome(shop);
        Shops.line(shop, "db");
        Check.refused("b falls", Shops.UNSUPPORTED, shop::drop);
        Check.same("nothing was dropped", 2, shop.signs());
        shop.tick(1);
        Check.same("b is there", 2, shop.drop());
    }
}
