/** Promises 12 to 19: what the calls about the line answer. */
final class LineTests {
    private LineTests() {
    }

    static void run() {
        Check.test("12 returns the measure before", LineTests::setMeasure);
        Check.test("13 returns the number of the matrix that falls", LineTests::key);
        Check.test("13 returns a matrix of another letter that is astray", LineTests::keyAstray);
        Check.test("14 returns how many signs the line has, those that fall included", LineTests::wedge);
        Check.test("15 returns the number of letters and wedges", LineTests::signs);
        Check.test("16 returns the letter of the matrix, a blank for a wedge, as it will stand", LineTests::signAt);
        Check.test("17 returns the measure less the widths of the letters", LineTests::wanting);
        Check.test("17 returns what is wanting to letters that fall, too", LineTests::wantingWhileFalling);
        Check.test("17 returns what can be below 0", LineTests::wantingBelow0);
        Check.test("18 returns the number of the slug", LineTests::send);
        Check.test("18 returns -1 if the pot squirts", LineTests::sendSquirts);
        Check.test("18: a line of wedges alone", LineTests::sendWedges);
        Check.test("18: a line of 30 signs", LineTests::sendFullLine);
        Check.test("19 returns how many signs it had", LineTests::drop);
        Check.test("19: nothing is cast by dropping", LineTests::dropCastsNothing);
    }

    private static void setMeasure() {
        HotMetalShop shop = new HotMetalShop();
        Check.same("a new shop's", 30, shop.setMeasure(60));
        Check.same("before", 60, shop.setMeasure(12));
        Check.same("before", 12, shop.setMeasure(25));
        Check.same("wanting", 25, shop.wanting());
        Check.same("the same again", 25, shop.setMeasure(25));
    }

    private static void key() {
        HotMetalShop shop = new HotMetalShop();
        shop.addMatrices('b', 1);
        shop.addMatrices('a', 2);
        Check.same("a", 1, shop.key('a'));
        Check.same("a", 2, shop.key('a'));
        Check.same("b", 0, shop.key('b'));
        Check.same("signs", 3, shop.signs());
        Check.same("a is empty", 0, shop.channel('a'));
    }

    private static void keyAstray() {
        HotMetalShop shop = Shops.astray();
        Check.same("d falls from e", 0, shop.key('e'));
        Check.sign("it reads d", 'd', shop.signAt(0));
        Check.same("it is as wide as d", 7, shop.wanting());
    }

    private static void wedge() {
        HotMetalShop shop = new HotMetalShop();
        shop.addMatrices('c', 1);
        Check.same("one", 1, shop.wedge());
        shop.key('c');
        Check.same("with what falls", 3, shop.wedge());
        Check.same("it is none of the letters", 26, shop.wanting());
    }

    private static void signs() {
        HotMetalShop shop = new HotMetalShop();
        shop.addMatrices('c', 1);
        Check.same("none", 0, shop.signs());
        shop.key('c');
        Check.same("falling", 1, shop.signs());
        shop.wedge();
        Check.same("a wedge", 2, shop.signs());
        shop.tick(2);
        Check.same("all there", 2, shop.signs());
        shop.drop();
        Check.same("none", 0, shop.signs());
    }

    private static void signAt() {
        HotMetalShop shop = new HotMetalShop();
        shop.addMatrices('b', 1);
        shop.addMatrices('j', 1);
        Shops.line(shop, "b j");
        Check.sign("the wedge", ' ', shop.signAt(0));
        Check.sign("j", 'j', shop.signAt(1));
        Check.sign("b falls, and comes last", 'b', shop.signAt(2));
        shop.tick(1);
        Check.text("as it stands", " jb", Shops.lineOf(shop));
    }

    private static void wanting() {
        HotMetalShop shop = new HotMetalShop();
        Check.same("an empty line", 30, shop.wanting());
        shop.addMatrices('d', 2);
        shop.key('d');
        Check.same("d", 25, shop.wanting());
        shop.wedge();
        Check.same("a wedge is no letter", 25, shop.wanting());
        shop.drop();
        Check.same("empty again", 30, shop.wanting());
        shop.setMeasure(12);
        Check.same("another measure", 12, shop.wanting());
    }

    private static void wantingWhileFalling() {
        HotMetalShop shop = new HotMetalShop();
        shop.addMatrices('c', 1);
        shop.key('c');
        Check.same("c falls", 26, shop.wanting());
        shop.tick(2);
        Check.same("c is there", 26, shop.wanting());
    }

    private static void wantingBelow0() {
        HotMetalShop shop = Shops.with("dac", 3, 12);
        Shops.line(shop, "dda");
        Check.same("just none", 0, shop.wanting());
        Shops.line(shop, "a");
        Check.same("below 0", -2, shop.wanting());
        Shops.line(shop, "c");
        Check.same("with what falls", -6, shop.wanting());
    }

    private static void send() {
        HotMetalShop shop = Shops.with("da", 3, 12);
        Shops.line(shop, "dda");
        Check.same("the first one", 0, shop.send());
        Shops.line(shop, "da ");
        Check.same("the second one", 1, shop.send());
        Check.text("it reads", "da ", Shops.slug(shop, 1));
        shop.melt(1);
        shop.tick(10);
        Shops.line(shop, "dda");
        Check.same("a melted one keeps its number", 2, shop.send());
    }

    private static void sendSquirts() {
        HotMetalShop shop = Shops.with("d", 4, 12);
        shop.setHeat(350);
        shop.tick(11);
        Shops.line(shop, "d d");
        Check.same("no slug", -1, shop.send());
        Check.same("none was cast", 0, shop.slugs());
        shop.setHeat(280);
        shop.tick(20);
        Shops.line(shop, "d d");
        Check.same("the first slug", 0, shop.send());
    }

    private static void sendWedges() {
        HotMetalShop shop = Shops.with("", 0, 12);
        Shops.line(shop, "  ");
        Check.same("two wedges", 0, shop.send());
        Check.text("reads", "  ", Shops.slug(shop, 0));
        Check.same("6", 6, shop.spaceAt(0, 0));
        Check.same("6", 6, shop.spaceAt(0, 1));
        Shops.line(shop, "      ");
        Check.same("six wedges", 1, shop.send());
        Check.same("2", 2, shop.spaceAt(1, 5));
        Check.yes("isSound", shop.isSound());
    }

    private static void sendFullLine() {
        HotMetalShop shop = Shops.with("aei", 10, 60);
        for (char letter : "aei".toCharArray()) {
            for (int i = 0; i < 10; i++) {
                shop.key(letter);
            }
        }
        shop.tick(2);
        Check.same("30 letters of 2", 0, shop.send());
        Check.same("signs", 30, shop.lengthOf(0));
        for (int i = 0; i < 30; i++) {
            shop.wedge();
        }
        Check.same("30 wedges of 2", 1, shop.send());
        Check.same("the last one", 2, shop.spaceAt(1, 29));
        shop.tick(34);
        Check.sign("the letter 29 comes 34 later", 'm', shop.placeOf(29));
        Check.yes("isSound", shop.isSound());
    }

    private static void drop() {
        HotMetalShop shop = Shops.with("db", 2, 12);
        Check.same("an empty line", 0, shop.drop());
        shop.wedge();
        Check.same("a wedge", 1, shop.drop());
        Shops.line(shop, "d d");
        Check.same("three signs", 3, shop.drop());
        Check.same("the line is empty", 0, shop.signs());
        Check.same("an empty line again", 0, shop.drop());
    }

    private static void dropCastsNothing() {
        HotMetalShop shop = Shops.with("d", 2, 12);
        Shops.line(shop, "d d");
        shop.drop();
        Check.same("heat", 280, shop.heat());
        Check.same("wear", 0, shop.wearOf(0));
        Check.same("slugs", 0, shop.slugs());
        Check.same("ems", 0, shop.ems());
        Check.text("metal", "30 30 240", Shops.metal(shop, 'p'));
        shop.tick(4);
        Check.text("running", "rr", Shops.places(shop, 2));
        shop.tick(1);
        Check.text("5 ticks later", "mr", Shops.places(shop, 2));
        shop.tick(1);
        Check.text("6 ticks later", "mm", Shops.places(shop, 2));
    }
}
