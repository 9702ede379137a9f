/** Promises 34 to 44: the calls about slugs, pages and figures that are refused, and those that are just not. */
final class SlugRefusals {
    private SlugRefusals() {
    }

    static void run() {
        Check.test("34 throws IndexOutOfBoundsException: no such slug", () -> noSlug(shop -> shop::isThere));
        Check.test("35 throws IndexOutOfBoundsException: no such slug", () -> noSlug(shop -> shop::lengthOf));
        Check.test("36 throws IndexOutOfBoundsException: no such slug",
                () -> noSlug(shop -> slug -> shop.proof(slug, 0)));
        Check.test("36 throws IndexOutOfBoundsException: no such place", SlugRefusals::proofOfNoPlace);
        Check.test("37 throws IndexOutOfBoundsException: no such slug",
                () -> noSlug(shop -> slug -> shop.spaceAt(slug, 1)));
        Check.test("37 throws IndexOutOfBoundsException: no wedge at this place", SlugRefusals::spaceOfNoWedge);
        Check.test("38 throws IndexOutOfBoundsException: no such slug", () -> noSlug(shop -> shop::isCold));
        Check.test("39 throws IndexOutOfBoundsException: no such slug", () -> noSlug(shop -> shop::hasHairLine));
        Check.test("40 throws IndexOutOfBoundsException: no such slug", () -> noSlug(shop -> shop::melt));
        Check.test("40 throws NoSuchElementException: it was melted", SlugRefusals::meltTwice);
        Check.test("40 throws UnsupportedOperationException: it is in a paragraph", SlugRefusals::meltOfParagraph);
        Check.test("41 throws IllegalArgumentException: less than 2", SlugRefusals::pageOfOne);
        Check.test("41 throws IndexOutOfBoundsException: no such slug, for the first one", SlugRefusals::noFirstSlug);
        Check.test("41 throws IndexOutOfBoundsException: no such slug, for the last one", SlugRefusals::noLastSlug);
        Check.test("41 throws NoSuchElementException: one was melted", SlugRefusals::pageOfMelted);
        Check.test("41 throws NoSuchElementException: it cannot be locked", SlugRefusals::pageOfOtherHeight);
        Check.test("41 throws UnsupportedOperationException: no such gap", SlugRefusals::noGap);
        Check.test("43 throws ArithmeticException: no slugs", SlugRefusals::shareOfNone);
        Check.test("44 throws ArithmeticException: no matrices", SlugRefusals::wearOfNone);
    }

    private interface SlugCall {
        Check.NumberCall on(HotMetalShop shop);
    }

    private static HotMetalShop twoSlugs() {
        HotMetalShop shop = Shops.with("d", 4, 12);
        for (int i = 0; i < 2; i++) {
            Shops.line(shop, "d d");
            shop.send();
        }
        return shop;
    }

    /** Without slugs, and with two of "d d": the last one is there, the next one is not. */
    private static void noSlug(SlugCall call) {
        HotMetalShop none = Shops.letters(12);
        Check.noNumbers(none, Shops.INDEX, call.on(none), 0, -1, 1);
        HotMetalShop shop = twoSlugs();
        Check.noNumbers(shop, Shops.INDEX, call.on(shop), 2, -1);
        call.on(shop).of(0);
        call.on(shop).of(1);
        Check.noNumbers(shop, Shops.INDEX, call.on(shop), 2, -1);
    }

    private static void proofOfNoPlace() {
        HotMetalShop shop = twoSlugs();
        Check.noNumbers(shop, Shops.INDEX, place -> shop.proof(1, place), 3, -1);
        Check.sign("the first place", 'd', shop.proof(1, 0));
        Check.sign("the last place", 'd', shop.proof(1, 2));
        shop.melt(1);
        Check.noNumbers(shop, Shops.INDEX, place -> shop.proof(1, place), 3, -1);
    }

    private static void spaceOfNoWedge() {
        HotMetalShop shop = Shops.with("d", 2, 14);
        Shops.line(shop, " dd ");
        shop.send();
        Check.noNumbers(shop, Shops.INDEX, place -> shop.spaceAt(0, place), 4, -1);
        Check.refused(shop, "a letter", Shops.INDEX, () -> shop.spaceAt(0, 1));
        Check.refused(shop, "a letter", Shops.INDEX, () -> shop.spaceAt(0, 2));
        Check.same("the first place", 2, shop.spaceAt(0, 0));
        Check.same("the last place", 2, shop.spaceAt(0, 3));
    }

    private static void meltTwice() {
        HotMetalShop shop = twoSlugs();
        Check.same("once", 12, shop.melt(1));
        Check.refused(shop, "twice", Shops.ELEMENT, () -> shop.melt(1));
        Shops.line(shop, "      ");
        shop.send();
        shop.tick(20);
        Shops.compose(shop, "d");
        shop.mark(3, 0, 'd');
        shop.correct(0);
        Check.refused(shop, "by correcting", Shops.ELEMENT, () -> shop.melt(3));
        Check.same("another one", 12, shop.melt(2));
    }

    private static void meltOfParagraph() {
        HotMetalShop shop = twoSlugs();
        shop.tick(20);
        Shops.compose(shop, "d d d");
        Check.refused(shop, "the first line", Shops.UNSUPPORTED, () -> shop.melt(2));
        Check.refused(shop, "the last line", Shops.UNSUPPORTED, () -> shop.melt(3));
        shop.mark(2, 0, 'd');
        Check.refused(shop, "a marked one", Shops.UNSUPPORTED, () -> shop.melt(2));
        shop.tick(20);
        shop.correct(0);
        Check.refused(shop, "cast anew", Shops.UNSUPPORTED, () -> shop.melt(4));
        Check.refused(shop, "that stays", Shops.UNSUPPORTED, () -> shop.melt(3));
        Check.same("in no paragraph", 12, shop.melt(1));
    }

    private static void pageOfOne() {
        HotMetalShop shop = Shops.withSlugs(3);
        for (int wrong : new int[] {1, 0, -1, Integer.MIN_VALUE}) {
            Check.refused(shop, "many " + wrong, Shops.ARGUMENT, () -> shop.lead(0, wrong, 3, 0));
        }
        Check.same("2", 0, shop.lead(0, 2, 6, 0));
    }

    private static void noFirstSlug() {
        HotMetalShop none = new HotMetalShop();
        Check.noNumbers(none, Shops.INDEX, first -> none.lead(first, 2, 6, 0), 0, -1);
        HotMetalShop shop = Shops.withSlugs(3);
        Check.noNumbers(shop, Shops.INDEX, first -> shop.lead(first, 2, 6, 0), 2, 3, -1);
        Check.same("from the first one", 0, shop.lead(0, 2, 6, 0));
        Check.same("from the last but one", 0, shop.lead(1, 2, 6, 0));
    }

    private static void noLastSlug() {
        HotMetalShop shop = Shops.withSlugs(3);
        for (int wrong : new int[] {4, 5, Integer.MAX_VALUE}) {
            Check.refused(shop, "many " + wrong, Shops.INDEX, () -> shop.lead(0, wrong, 12, 0));
            Check.refused(shop, "many " + wrong + " from 1", Shops.INDEX, () -> shop.lead(1, wrong, 12, 0));
        }
        Check.refused(shop, "3 from 1", Shops.INDEX, () -> shop.lead(1, 3, 9, 0));
        Check.same("all of them", 0, shop.lead(0, 3, 9, 0));
    }

    private static void pageOfMelted() {
        HotMetalShop shop = Shops.withSlugs(5);
        shop.melt(2);
        Check.refused(shop, "the first one", Shops.ELEMENT, () -> shop.lead(2, 3, 9, 0));
        Check.refused(shop, "one between", Shops.ELEMENT, () -> shop.lead(1, 3, 9, 0));
        Check.refused(shop, "the last one", Shops.ELEMENT, () -> shop.lead(0, 3, 9, 0));
        Check.same("ahead of it", 0, shop.lead(0, 2, 6, 0));
        Check.same("behind it", 0, shop.lead(3, 2, 6, 0));
    }

    private static void pageOfOtherHeight() {
        HotMetalShop shop = Shops.withSlugs(3);
        Check.noNumbers(shop, Shops.ELEMENT, height -> shop.lead(0, 3, height, 0), 8, 14, 0, -9);
        Check.same("9", 0, shop.lead(0, 3, 9, 0));
        Check.same("13", 2, shop.lead(0, 3, 13, 0));
        Check.refused(shop, "5 of 2", Shops.ELEMENT, () -> shop.lead(0, 2, 5, 0));
        Check.refused(shop, "9 of 2", Shops.ELEMENT, () -> shop.lead(0, 2, 9, 0));
    }

    private static void noGap() {
        HotMetalShop shop = Shops.withSlugs(3);
        Check.noNumbers(shop, Shops.UNSUPPORTED, gap -> shop.lead(0, 3, 10, gap), 2, -1, 3);
        Check.same("the first gap", 1, shop.lead(0, 3, 10, 0));
        Check.same("the last gap", 0, shop.lead(0, 3, 10, 1));
        Check.refused(shop, "gap 1 of 2 slugs", Shops.UNSUPPORTED, () -> shop.lead(0, 2, 6, 1));
    }

    private static void shareOfNone() {
        HotMetalShop shop = Shops.with("d", 4, 12);
        Check.refused(shop, "none", Shops.ARITHMETIC, shop::goodShare);
        shop.setHeat(350);
        shop.tick(12);
        Shops.line(shop, "d d");
        shop.send();
        Check.refused(shop, "it squirted", Shops.ARITHMETIC, shop::goodShare);
        shop.setHeat(280);
        shop.tick(20);
        Shops.line(shop, "d d");
        shop.send();
        Check.number("one", 1.0f, shop.goodShare());
        shop.melt(0);
        Check.number("one, and it was melted", 1.0f, shop.goodShare());
    }

    private static void wearOfNone() {
        HotMetalShop shop = new HotMetalShop();
        Check.refused(shop, "none", Shops.ARITHMETIC, shop::meanWear);
        shop.addMatrices('a', 1);
        Check.number("one", 0.0, shop.meanWear());
        shop.key('a');
        Check.number("one that is out", 0.0, shop.meanWear());
    }
}
