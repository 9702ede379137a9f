/** Promises 33 to 45: slugs, pages and figures. */
final class SlugTests {
    private SlugTests() {
    }

    static void run() {
        Check.test("33: slugs", SlugTests::slugs);
        Check.test("34: isThere", SlugTests::isThere);
        Check.test("35, 36: lengthOf and proof", SlugTests::reading);
        Check.test("37: spaceAt", SlugTests::spaceAt);
        Check.test("38: isCold below 250", SlugTests::isCold);
        Check.test("39: hasHairLine from a wear of 6 on", SlugTests::hasHairLine);
        Check.test("40: melt", SlugTests::melt);
        Check.test("41: lead", SlugTests::lead);
        Check.test("41: lead refuses", SlugTests::leadRefuses);
        Check.test("42: ems", SlugTests::ems);
        Check.test("43: goodShare", SlugTests::goodShare);
        Check.test("44: meanWear", SlugTests::meanWear);
        Check.test("45: isSound on the way", SlugTests::isSound);
        Check.test("45: isSound sees what no call can do", SlugTests::isNotSound);
    }

    /** A shop with so many slugs of "dda", cast by hand. */
    private static HotMetalShop withSlugs(int many) {
        HotMetalShop shop = Shops.with("ad", 4, 12);
        for (int i = 0; i < many; i++) {
            Shops.line(shop, "dda");
            shop.send();
            shop.tick(8);
        }
        return shop;
    }

    private static void slugs() {
        HotMetalShop shop = withSlugs(2);
        Check.same("cast", 2, shop.slugs());
        shop.melt(0);
        Check.same("melted ones count", 2, shop.slugs());
        shop.setHeat(350);
        shop.tick(30);
        Shops.line(shop, "dda");
        shop.send();
        Check.same("squirts do not", 2, shop.slugs());
    }

    private static void isThere() {
        HotMetalShop shop = withSlugs(2);
        Check.yes("0", shop.isThere(0));
        shop.melt(0);
        Check.no("melted", shop.isThere(0));
        Check.yes("1", shop.isThere(1));
        Check.refused("-1", Shops.INDEX, () -> shop.isThere(-1));
        Check.refused("2", Shops.INDEX, () -> shop.isThere(2));
    }

    private static void reading() {
        HotMetalShop shop = Shops.with("abd", 4, 12);
        Shops.line(shop, "bd a");
        shop.tick(1);
        Check.same("10 and a wedge of 2", 0, shop.send());
        Check.same("signs", 4, shop.lengthOf(0));
        Check.text("by the ticks", "d ab", Shops.slug(shop, 0));
        Check.refused("proof(0, -1)", Shops.INDEX, () -> shop.proof(0, -1));
        Check.refused("proof(0, 4)", Shops.INDEX, () -> shop.proof(0, 4));
        Check.refused("proof(-1, 0)", Shops.INDEX, () -> shop.proof(-1, 0));
        Check.refused("proof(1, 0)", Shops.INDEX, () -> shop.proof(1, 0));
        Check.refused("lengthOf(-1)", Shops.INDEX, () -> shop.lengthOf(-1));
        Check.refused("lengthOf(1)", Shops.INDEX, () -> shop.lengthOf(1));
        shop.melt(0);
        Check.same("a melted one's signs", 4, shop.lengthOf(0));
        Check.sign("a melted one reads", 'd', shop.proof(0, 0));
        Shops.compose(shop, "d");
        Check.same("quads are not told", 1, shop.lengthOf(1));
    }

    private static void spaceAt() {
        HotMetalShop shop = Shops.with("a", 4, 30);
        Shops.line(shop, "a a a a  ");
        shop.send();
        // 22 are wanting to 8, among 5 wedges
        int[] widths = {0, 5, 0, 5, 0, 4, 0, 4, 4};
        for (int i = 0; i < widths.length; i++) {
            int place = i;
            if (widths[i] == 0) {
                Check.refused("letter at " + i, Shops.INDEX, () -> shop.spaceAt(0, place));
            } else {
                Check.same("wedge at " + i, widths[i], shop.spaceAt(0, place));
            }
        }
        Check.refused("place -1", Shops.INDEX, () -> shop.spaceAt(0, -1));
        Check.refused("place 9", Shops.INDEX, () -> shop.spaceAt(0, 9));
        Check.refused("slug -1", Shops.INDEX, () -> shop.spaceAt(-1, 1));
        Check.refused("slug 1", Shops.INDEX, () -> shop.spaceAt(1, 1));
        shop.setMeasure(12);
        Check.same("as it was cast", 5, shop.spaceAt(0, 1));
    }

    private static void isCold() {
        HotMetalShop shop = Shops.with("d", 4, 12);
        shop.setHeat(200);
        shop.tick(15);
        Check.same("heat", 250, shop.heat());
        Shops.line(shop, "d d");
        shop.send();
        Check.no("at 250", shop.isCold(0));
        Check.same("paid", 12, shop.ems());
        shop.setHeat(249);
        shop.tick(2);
        Check.same("heat", 249, shop.heat());
        Shops.line(shop, "d d");
        shop.send();
        Check.yes("at 249", shop.isCold(1));
        Check.same("not paid", 12, shop.ems());
        Check.refused("-1", Shops.INDEX, () -> shop.isCold(-1));
        Check.refused("2", Shops.INDEX, () -> shop.isCold(2));
    }

    private static void hasHairLine() {
        HotMetalShop shop = Shops.with("d", 2, 12);
        Shops.wear(shop, 6);
        Check.no("with a wear of 5", shop.hasHairLine(5));
        Check.same("paid", 72, shop.ems());
        shop.mend(0);
        Shops.wear(shop, 1);
        Check.yes("with a wear of 6 and one of 0", shop.hasHairLine(6));
        Check.same("not paid", 72, shop.ems());
        shop.mend(1);
        Shops.wear(shop, 1);
        Check.no("mended", shop.hasHairLine(7));
        Check.same("paid", 84, shop.ems());
        Check.refused("-1", Shops.INDEX, () -> shop.hasHairLine(-1));
        Check.refused("8", Shops.INDEX, () -> shop.hasHairLine(8));
    }

    private static void melt() {
        HotMetalShop shop = withSlugs(2);
        Check.text("slugs", "2 2 20", Shops.metal(shop, 's'));
        Check.same("back", 12, shop.melt(0));
        Check.text("slugs", "1 1 10", Shops.metal(shop, 's'));
        Check.text("pot", "29 29 230", Shops.metal(shop, 'p'));
        Check.refused("melted", Shops.ELEMENT, () -> shop.melt(0));
        Check.refused("-1", Shops.INDEX, () -> shop.melt(-1));
        Check.refused("2", Shops.INDEX, () -> shop.melt(2));
        shop.setMeasure(30);
        Check.same("as much as was cast", 12, shop.melt(1));
        Shops.compose(shop, "d");
        Check.refused("in a paragraph", Shops.UNSUPPORTED, () -> shop.melt(2));
        Check.yes("it is there", shop.isThere(2));
        Check.same("heat does not change", 275, shop.heat());
        Check.yes("isSound", shop.isSound());
    }

    private static void lead() {
        HotMetalShop shop = withSlugs(5);
        int[][] pages = {{12, 0, 0, 0}, {13, 1, 0, 0}, {14, 1, 1, 0}, {15, 1, 1, 1}, {16, 2, 1, 1}, {17, 2, 2, 1}, {18, 2, 2, 2}};
        for (int[] page : pages) {
            for (int gap = 0; gap < 3; gap++) {
                Check.same("height " + page[0] + ", gap " + gap, page[gap + 1], shop.lead(0, 4, page[0], gap));
            }
        }
        Check.same("two slugs", 2, shop.lead(3, 2, 8, 0));
        Check.same("all slugs", 1, shop.lead(0, 5, 16, 0));
    }

    private static void leadRefuses() {
        HotMetalShop shop = withSlugs(5);
        for (int wrong : new int[] {1, 0, -1, Integer.MIN_VALUE}) {
            Check.refused("many " + wrong, Shops.ARGUMENT, () -> shop.lead(0, wrong, 3, 0));
            Check.refused("many " + wrong + " is looked at first", Shops.ARGUMENT, () -> shop.lead(-1, wrong, 3, 0));
        }
        Check.refused("6 slugs", Shops.INDEX, () -> shop.lead(0, 6, 18, 0));
        Check.refused("from -1", Shops.INDEX, () -> shop.lead(-1, 2, 6, 0));
        Check.refused("from 4", Shops.INDEX, () -> shop.lead(4, 2, 6, 0));
        Check.refused("from 5", Shops.INDEX, () -> shop.lead(5, 2, 6, 0));
        for (int far : new int[] {Integer.MAX_VALUE, Integer.MIN_VALUE}) {
            Check.refused("from " + far, Shops.INDEX, () -> shop.lead(far, 2, 6, 0));
            Check.refused("height " + far, Shops.ELEMENT, () -> shop.lead(0, 2, far, 0));
            Check.refused("gap " + far, Shops.UNSUPPORTED, () -> shop.lead(0, 2, 6, far));
        }
        Check.refused("many, far", Shops.INDEX, () -> shop.lead(1, Integer.MAX_VALUE, 6, 0));
        Check.refused("11 of 12", Shops.ELEMENT, () -> shop.lead(0, 4, 11, 0));
        Check.refused("19 of 18", Shops.ELEMENT, () -> shop.lead(0, 4, 19, 0));
        Check.refused("the height is looked at first", Shops.ELEMENT, () -> shop.lead(0, 4, 19, 3));
        Check.refused("gap 3", Shops.UNSUPPORTED, () -> shop.lead(0, 4, 12, 3));
        Check.refused("gap -1", Shops.UNSUPPORTED, () -> shop.lead(0, 4, 12, -1));
        shop.melt(3);
        Check.refused("melted", Shops.ELEMENT, () -> shop.lead(0, 4, 12, 0));
        Check.refused("melted", Shops.ELEMENT, () -> shop.lead(3, 2, 6, 7));
        Check.refused("all must be slugs first", Shops.INDEX, () -> shop.lead(3, 3, 9, 0));
        Check.same("without it", 1, shop.lead(0, 3, 10, 0));
    }

    private static void ems() {
        HotMetalShop shop = Shops.with("d", 12, 12);
        Check.same("none", 0, shop.ems());
        Shops.line(shop, "d d");
        shop.send();
        Check.same("a measure", 12, shop.ems());
        shop.setMeasure(14);
        Shops.line(shop, "d d");
        shop.send();
        Check.same("another measure", 26, shop.ems());
        shop.melt(0);
        Check.same("melting takes none", 26, shop.ems());
        Shops.compose(shop, "d d d");
        Check.same("two lines", 54, shop.ems());
    }

    private static void goodShare() {
        HotMetalShop shop = withSlugs(0);
        Check.refused("none", Shops.ARITHMETIC, shop::goodShare);
        shop.setHeat(350);
        shop.tick(12);
        Shops.line(shop, "dda");
        shop.send();
        Check.refused("it squirted", Shops.ARITHMETIC, shop::goodShare);
        shop.setHeat(280);
        shop.tick(20);
        Shops.line(shop, "dda");
        shop.send();
        Check.number("1 of 1", 1.0f, shop.goodShare());
        shop.setHeat(200);
        shop.tick(30);
        Shops.line(shop, "dda");
        shop.send();
        Check.number("1 of 2", 0.5f, shop.goodShare());
        shop.tick(10);
        Shops.line(shop, "dda");
        shop.send();
        Check.number("1 of 3", 1.0f / 3.0f, shop.goodShare());
        shop.melt(0);
        Check.number("melted ones count", 1.0f / 3.0f, shop.goodShare());
        HotMetalShop worn = Shops.with("d", 2, 12);
        Shops.wear(worn, 8);
        Check.number("6 of 8", 0.75f, worn.goodShare());
    }

    private static void meanWear() {
        HotMetalShop shop = new HotMetalShop();
        Check.refused("none", Shops.ARITHMETIC, shop::meanWear);
        shop.feed(0, 0, 100);
        shop.setMeasure(12);
        shop.addMatrices('d', 3);
        Check.number("0", 0.0, shop.meanWear());
        Shops.line(shop, "d d");
        shop.send();
        Check.number("2 of 3", 2.0 / 3.0, shop.meanWear());
        shop.tick(6);
        Shops.line(shop, "d d");
        shop.send();
        Check.number("4 of 3", 4.0 / 3.0, shop.meanWear());
        shop.tick(6);
        shop.mend(0);
        Check.number("less by mending", 2.0 / 3.0, shop.meanWear());
    }

    private static void isSound() {
        HotMetalShop shop = Shops.with("abd", 4, 12);
        Shops.line(shop, "bd ");
        Check.yes("falling", shop.isSound());
        shop.tick(1);
        shop.drop();
        Check.yes("running", shop.isSound());
        shop.setHeat(300);
        shop.tick(20);
        Check.yes("burning", shop.isSound());
        Shops.compose(shop, "d d d d");
        Check.yes("composed", shop.isSound());
        shop.mark(0, 0, 'b');
        Check.yes("marked", shop.isSound());
        shop.correct(0);
        Check.yes("corrected", shop.isSound());
        shop.clear('a');
        Check.yes("cleared", shop.isSound());
        Shops.ticks(shop, 100);
        Shops.line(shop, "d d");
        shop.send();
        shop.melt(shop.slugs() - 1);
        Check.yes("melted", shop.isSound());
    }

    /** No call makes a shop unsound, so the test reaches into it, undoes it, and looks again. */
    private static void isNotSound() {
        HotMetalShop shop = withSlugs(2);
        Object magazine = Inside.of(shop, "magazine");
        Object stock = Inside.of(shop, "stock");
        Object slug = ((java.util.List<?>) Inside.of(shop, "cast")).get(1);
        spoil(shop, "a matrix is in no place", Inside.of(magazine, "lengths"), 0, -1);
        spoil(shop, "a matrix is in two places", Inside.of(magazine, "places"), 7, 'r' - 'm');
        spoil(shop, "less was fed", Inside.of(stock, "fed"), 2, -1);
        spoil(shop, "tin was fed", Inside.of(stock, "fed"), 0, 1);
        spoil(shop, "a slug holds other metal", Inside.of(slug, "parts"), 0, 1);
        spoil(shop, "a slug holds other metal", Inside.of(slug, "parts"), 2, 1);
        spoil(shop, "a slug is too wide", Inside.of(slug, "widths"), 0, 1);
        spoil(shop, "a slug is too narrow", Inside.of(slug, "widths"), 0, -1);
        spoil(shop, "a slug reads otherwise", Inside.of(slug, "reading"), 0, 1);
        spoil(shop, "a slug had another matrix", Inside.of(slug, "matrices"), 2, 4);
        shop.melt(1);
        java.lang.reflect.Array.setChar(Inside.of(slug, "reading"), 0, 'j');
        Check.yes("a melted slug is not there", shop.isSound());
    }

    private static void spoil(HotMetalShop shop, String what, Object row, int index, int by) {
        Check.yes("ahead of it", shop.isSound());
        Inside.add(row, index, by);
        Check.no(what, shop.isSound());
        Inside.add(row, index, -by);
    }
}
