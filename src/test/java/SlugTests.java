/** Promises 33 to 45: what the calls about slugs, pages and figures answer. */
final class SlugTests {
    private SlugTests() {
    }

    static void run() {
        Check.test("33 returns the number of slugs that were cast", SlugTests::slugs);
        Check.test("34 returns true if it was not melted", SlugTests::isThere);
        Check.test("35 returns the number of signs", SlugTests::lengthOf);
        Check.test("36 returns the letter, or a blank", SlugTests::proof);
        Check.test("37 returns the width of a wedge as it was cast", SlugTests::spaceAt);
        Check.test("38 returns true if it is cold", SlugTests::isCold);
        Check.test("39 returns true if it has a hair line", SlugTests::hasHairLine);
        Check.test("40 returns how much metal comes back", SlugTests::melt);
        Check.test("41 returns the height of a lead", SlugTests::lead);
        Check.test("42 returns the sum of ems", SlugTests::ems);
        Check.test("43 returns the share of good slugs", SlugTests::goodShare);
        Check.test("44 returns the mean wear", SlugTests::meanWear);
        Check.test("45 returns true on the whole way", SlugTests::isSound);
        Check.test("45 returns false if a matrix is in no place, or in two", SlugTests::unsoundPlaces);
        Check.test("45 returns false if the metal does not balance", SlugTests::unsoundMetal);
        Check.test("45 returns false if a slug does not fill", SlugTests::unsoundWidths);
        Check.test("45 returns false if a slug reads otherwise", SlugTests::unsoundReading);
        Check.test("45: melted slugs are not looked at", SlugTests::meltedIsNotThere);
    }

    private static void slugs() {
        HotMetalShop shop = new HotMetalShop();
        Check.same("none", 0, shop.slugs());
        shop = Shops.withSlugs(2);
        Check.same("two", 2, shop.slugs());
        shop.melt(0);
        Check.same("melted ones count", 2, shop.slugs());
        Shops.compose(shop, "d");
        Check.same("composed ones count", 3, shop.slugs());
        shop.setHeat(350);
        shop.tick(30);
        Shops.line(shop, "dda");
        shop.send();
        Check.same("squirts do not", 3, shop.slugs());
    }

    private static void isThere() {
        HotMetalShop shop = Shops.withSlugs(2);
        Check.yes("0", shop.isThere(0));
        shop.melt(0);
        Check.no("melted", shop.isThere(0));
        Check.yes("1", shop.isThere(1));
    }

    private static void lengthOf() {
        HotMetalShop shop = Shops.with("ad", 4, 12);
        Shops.line(shop, "dda");
        shop.send();
        Shops.line(shop, "a  ");
        shop.wedge();
        shop.send();
        Check.same("letters", 3, shop.lengthOf(0));
        Check.same("letters and wedges", 4, shop.lengthOf(1));
        shop.melt(0);
        Check.same("a melted one's", 3, shop.lengthOf(0));
        Shops.compose(shop, "a a");
        Check.same("without quads", 3, shop.lengthOf(2));
    }

    private static void proof() {
        HotMetalShop shop = Shops.with("ad", 4, 12);
        Shops.line(shop, "d a ");
        shop.send();
        Check.text("reads", "d a ", Shops.slug(shop, 0));
        shop.melt(0);
        Check.text("melted", "d a ", Shops.slug(shop, 0));
        Shops.compose(shop, "a d");
        Check.text("composed", "a d", Shops.slug(shop, 1));
    }

    private static void spaceAt() {
        HotMetalShop shop = Shops.with("a", 4, 30);
        Shops.line(shop, "a a a a  ");
        shop.send();
        // 22 are wanting to 8, among 5 wedges
        int[][] widths = {{1, 5}, {3, 5}, {5, 4}, {7, 4}, {8, 4}};
        for (int[] width : widths) {
            Check.same("wedge at " + width[0], width[1], shop.spaceAt(0, width[0]));
        }
        shop.setMeasure(12);
        Check.same("as it was cast", 5, shop.spaceAt(0, 1));
        shop.melt(0);
        Check.same("melted", 5, shop.spaceAt(0, 1));
    }

    private static void isCold() {
        HotMetalShop shop = Shops.with("d", 6, 12);
        Shops.line(shop, "d d");
        shop.send();
        Check.no("at 280", shop.isCold(0));
        shop.setHeat(200);
        shop.tick(13);
        Check.same("heat", 249, shop.heat());
        Shops.line(shop, "d d");
        shop.send();
        Check.yes("at 249", shop.isCold(1));
        shop.melt(1);
        Check.yes("melted", shop.isCold(1));
        Check.no("the other one", shop.isCold(0));
    }

    private static void hasHairLine() {
        HotMetalShop shop = Shops.with("d", 2, 12);
        Shops.wear(shop, 7);
        Check.no("the sixth", shop.hasHairLine(5));
        Check.yes("the seventh", shop.hasHairLine(6));
        shop.melt(6);
        shop.mend(0);
        shop.mend(1);
        Check.yes("melted, and its matrices mended", shop.hasHairLine(6));
    }

    private static void melt() {
        HotMetalShop shop = Shops.withSlugs(2);
        Check.text("slugs", "2 2 20", Shops.metal(shop, 's'));
        Check.same("as much as its measure", 12, shop.melt(0));
        Check.text("slugs", "1 1 10", Shops.metal(shop, 's'));
        Check.text("pot", "29 29 230", Shops.metal(shop, 'p'));
        shop.setMeasure(30);
        Check.same("not as the present measure", 12, shop.melt(1));
        Check.same("heat does not change", 280, shop.heat());
        Check.yes("isSound", shop.isSound());
    }

    private static void lead() {
        HotMetalShop shop = Shops.withSlugs(5);
        Check.same("none", 0, shop.lead(0, 5, 15, 3));
        Check.same("1 of 1 0 0 0", 1, shop.lead(0, 5, 16, 0));
        Check.same("0 of 1 0 0 0", 0, shop.lead(0, 5, 16, 1));
        Check.same("2", 2, shop.lead(0, 5, 23, 3));
        Check.same("of other slugs", 1, shop.lead(2, 3, 11, 1));
    }

    private static void ems() {
        HotMetalShop shop = Shops.with("d", 12, 12);
        Check.same("none", 0, shop.ems());
        Shops.line(shop, "d d");
        shop.send();
        Check.same("a measure", 12, shop.ems());
        shop.setMeasure(14);
        Shops.line(shop, "d d");
        shop.send();
        Check.same("another measure", 26, shop.ems());
        shop.melt(0);
        Check.same("melting takes none", 26, shop.ems());
        Shops.compose(shop, "d d d");
        Check.same("two lines", 54, shop.ems());
    }

    private static void goodShare() {
        HotMetalShop shop = Shops.withSlugs(1);
        Check.number("1 of 1", 1.0f, shop.goodShare());
        shop.setHeat(200);
        shop.tick(30);
        Shops.line(shop, "dda");
        shop.send();
        Check.number("1 of 2", 0.5f, shop.goodShare());
        shop.tick(10);
        Shops.line(shop, "dda");
        shop.send();
        Check.number("1 of 3", 1.0f / 3.0f, shop.goodShare());
        shop.melt(0);
        Check.number("melted ones count", 1.0f / 3.0f, shop.goodShare());
        HotMetalShop cold = Shops.with("d", 2, 12);
        cold.setHeat(200);
        cold.tick(40);
        Shops.line(cold, "d d");
        cold.send();
        Check.number("0 of 1", 0.0f, cold.goodShare());
    }

    private static void meanWear() {
        HotMetalShop shop = Shops.with("d", 3, 12);
        Check.number("0", 0.0, shop.meanWear());
        Shops.line(shop, "d d");
        shop.send();
        Check.number("2 of 3", 2.0 / 3.0, shop.meanWear());
        shop.tick(6);
        Shops.line(shop, "d d");
        shop.send();
        Check.number("4 of 3", 4.0 / 3.0, shop.meanWear());
        shop.tick(6);
        shop.mend(0);
        Check.number("less by mending", 2.0 / 3.0, shop.meanWear());
        shop.addMatrices('a', 1);
        Check.number("2 of 4", 0.5, shop.meanWear());
    }

    private static void isSound() {
        HotMetalShop shop = Shops.with("abd", 4, 12);
        Check.yes("an empty shop", new HotMetalShop().isSound());
        Shops.line(shop, "bd ");
        Check.yes("falling", shop.isSound());
        shop.tick(1);
        shop.drop();
        Check.yes("running", shop.isSound());
        shop.setHeat(300);
        shop.tick(20);
        Check.yes("burning", shop.isSound());
        Shops.compose(shop, "d d d d");
        Check.yes("composed", shop.isSound());
        shop.mark(0, 0, 'b');
        Check.yes("marked", shop.isSound());
        shop.correct(0);
        Check.yes("corrected", shop.isSound());
        Check.yes("jammed", Shops.jammed().isSound());
        HotMetalShop astray = Shops.astray();
        Check.yes("astray", astray.isSound());
        astray.clear('e');
        Check.yes("cleared", astray.isSound());
        astray.mend(0);
        astray.melt(3);
        Check.yes("melted", astray.isSound());
    }

    private static void spoil(HotMetalShop shop, String what, Object row, int index, int by) {
        Check.yes("ahead of it", shop.isSound());
        Inside.add(row, index, by);
        Check.no(what, shop.isSound());
        Inside.add(row, index, -by);
        Check.yes("behind it", shop.isSound());
    }

    // No call makes a shop unsound, so the tests below reach into it, undo it, and look again.

    private static void unsoundPlaces() {
        HotMetalShop shop = Shops.withSlugs(2);
        Object magazine = Inside.of(shop, "magazine");
        spoil(shop, "a matrix is in no place", Inside.of(magazine, "lengths"), 0, -1);
        spoil(shop, "the first matrix is in two places", Inside.of(magazine, "places"), 0, 'r' - 'm');
        spoil(shop, "the last matrix is in two places", Inside.of(magazine, "places"), 7, 'r' - 'm');
        Object channelOfD = java.lang.reflect.Array.get(Inside.of(magazine, "rows"), 3);
        spoil(shop, "a matrix lies twice, and another one nowhere", channelOfD, 0, 1);
    }

    private static void unsoundMetal() {
        HotMetalShop shop = Shops.withSlugs(2);
        Object stock = Inside.of(shop, "stock");
        spoil(shop, "less lead was fed", Inside.of(stock, "fed"), 2, -1);
        spoil(shop, "more tin was fed", Inside.of(stock, "fed"), 0, 1);
        spoil(shop, "more antimony was fed", Inside.of(stock, "fed"), 1, 1);
        spoil(shop, "a slug holds more tin", Inside.of(slug(shop, 1), "parts"), 0, 1);
        spoil(shop, "a slug holds more lead", Inside.of(slug(shop, 1), "parts"), 2, 1);
    }

    private static Object slug(HotMetalShop shop, int number) {
        return ((java.util.List<?>) Inside.of(shop, "cast")).get(number);
    }

    private static void unsoundWidths() {
        HotMetalShop shop = Shops.withSlugs(2);
        Shops.compose(shop, "d");
        spoil(shop, "the first slug is too wide", Inside.of(slug(shop, 0), "widths"), 0, 1);
        spoil(shop, "a slug is too wide", Inside.of(slug(shop, 1), "widths"), 0, 1);
        spoil(shop, "a slug is too narrow", Inside.of(slug(shop, 1), "widths"), 0, -1);
        spoil(shop, "quads cannot make it narrower", Inside.of(slug(shop, 2), "widths"), 0, 8);
        Inside.add(Inside.of(slug(shop, 2), "widths"), 0, -1);
        Check.yes("quads fill what is narrower", shop.isSound());
    }

    private static void unsoundReading() {
        HotMetalShop shop = Shops.withSlugs(2);
        spoil(shop, "the first slug reads otherwise", Inside.of(slug(shop, 0), "reading"), 2, 1);
        spoil(shop, "a slug reads otherwise", Inside.of(slug(shop, 1), "reading"), 0, 1);
        spoil(shop, "a slug had another matrix", Inside.of(slug(shop, 1), "matrices"), 2, 4);
    }

    private static void meltedIsNotThere() {
        HotMetalShop shop = Shops.withSlugs(2);
        shop.melt(1);
        Inside.add(Inside.of(slug(shop, 1), "reading"), 0, 1);
        Check.yes("a melted slug's reading", shop.isSound());
        Inside.add(Inside.of(slug(shop, 1), "widths"), 0, 1);
        Check.yes("a melted slug's widths", shop.isSound());
    }
}
