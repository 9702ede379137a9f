/** Promises 20 to 25: the calls about time and metal that are refused, and those that are just not. */
final class PotRefusals {
    private PotRefusals() {
    }

    static void run() {
        Check.test("20 throws IllegalArgumentException: 1 to 50", PotRefusals::tickOutOfRange);
        Check.test("20 throws IllegalStateException: it would be above 3000", PotRefusals::tickAbove3000);
        Check.test("22 throws IllegalArgumentException: 200 to 350", PotRefusals::heatOutOfRange);
        Check.test("24 throws IllegalArgumentException: 0 to 500 of tin", PotRefusals::tinOutOfRange);
        Check.test("24 throws IllegalArgumentException: 0 to 500 of antimony", PotRefusals::antimonyOutOfRange);
        Check.test("24 throws IllegalArgumentException: 0 to 500 of lead", PotRefusals::leadOutOfRange);
        Check.test("24 throws IllegalStateException: more than 3000", PotRefusals::feedAbove3000);
        Check.test("24 throws IllegalStateException: more than 3000 in the pot alone", PotRefusals::feedBesideSlugs);
        Check.test("24 throws IllegalStateException: more than 3000, by melting", PotRefusals::feedBehindMelting);
        Check.test("25 throws IllegalArgumentException: no such part", PotRefusals::metalOfNoPart);
        Check.test("25 throws IllegalArgumentException: no such place", PotRefusals::metalInNoPlace);
    }

    private static void tickOutOfRange() {
        HotMetalShop shop = new HotMetalShop();
        Check.noNumbers(shop, Shops.ARGUMENT, shop::tick, 0, 51, -1, -50);
        Check.same("1", 1, shop.tick(1));
        Check.same("50", 51, shop.tick(50));
        Check.noNumbers(shop, Shops.ARGUMENT, shop::tick, 0, 51, -1, -50);
    }

    private static void tickAbove3000() {
        HotMetalShop shop = new HotMetalShop();
        Shops.ticks(shop, 2951);
        Check.refused(shop, "3001", Shops.STATE, () -> shop.tick(50));
        Check.same("3000", 3000, shop.tick(49));
        Check.refused(shop, "3001", Shops.STATE, () -> shop.tick(1));
        Check.refused(shop, "3050", Shops.STATE, () -> shop.tick(50));
        HotMetalShop other = new HotMetalShop();
        Shops.ticks(other, 2999);
        Check.refused(other, "3001", Shops.STATE, () -> other.tick(2));
        Check.same("3000", 3000, other.tick(1));
    }

    private static void heatOutOfRange() {
        HotMetalShop shop = new HotMetalShop();
        Check.noNumbers(shop, Shops.ARGUMENT, shop::setHeat, 199, 351, 0, -280);
        Check.same("200", 280, shop.setHeat(200));
        Check.same("350", 200, shop.setHeat(350));
        Check.noNumbers(shop, Shops.ARGUMENT, shop::setHeat, 199, 351);
        Check.same("the one before", 350, shop.setHeat(280));
    }

    private static void tinOutOfRange() {
        HotMetalShop shop = new HotMetalShop();
        Check.noNumbers(shop, Shops.ARGUMENT, tin -> shop.feed(tin, 1, 1), -1, 501);
        Check.same("0", 2, shop.feed(0, 1, 1));
        Check.same("500", 502, shop.feed(500, 0, 0));
        Check.text("pot", "500 1 1", Shops.metal(shop, 'p'));
    }

    private static void antimonyOutOfRange() {
        HotMetalShop shop = new HotMetalShop();
        Check.noNumbers(shop, Shops.ARGUMENT, antimony -> shop.feed(1, antimony, 1), -1, 501);
        Check.same("0", 2, shop.feed(1, 0, 1));
        Check.same("500", 502, shop.feed(0, 500, 0));
        Check.text("pot", "1 500 1", Shops.metal(shop, 'p'));
    }

    private static void leadOutOfRange() {
        HotMetalShop shop = new HotMetalShop();
        Check.noNumbers(shop, Shops.ARGUMENT, lead -> shop.feed(1, 1, lead), -1, 501);
        Check.same("0", 2, shop.feed(1, 1, 0));
        Check.same("500", 502, shop.feed(0, 0, 500));
        Check.text("pot", "1 1 500", Shops.metal(shop, 'p'));
    }

    private static void feedAbove3000() {
        HotMetalShop shop = new HotMetalShop();
        shop.feed(500, 500, 500);
        shop.feed(500, 500, 0);
        Check.refused(shop, "3001, by all", Shops.STATE, () -> shop.feed(167, 167, 167));
        Check.same("2999", 2999, shop.feed(0, 0, 499));
        Check.refused(shop, "3001, by tin", Shops.STATE, () -> shop.feed(2, 0, 0));
        Check.refused(shop, "3001, by antimony", Shops.STATE, () -> shop.feed(0, 2, 0));
        Check.refused(shop, "3001, by lead", Shops.STATE, () -> shop.feed(0, 0, 2));
        Check.same("3000", 3000, shop.feed(0, 1, 0));
        Check.refused(shop, "3001", Shops.STATE, () -> shop.feed(0, 0, 1));
        Check.refused(shop, "4500", Shops.STATE, () -> shop.feed(500, 500, 500));
        Check.same("nothing more", 3000, shop.feed(0, 0, 0));
        Check.text("pot", "1000 1001 999", Shops.metal(shop, 'p'));
    }

    /** A pot of 3000, and a slug of 12. */
    private static HotMetalShop besideSlug() {
        HotMetalShop shop = new HotMetalShop();
        shop.setMeasure(12);
        shop.feed(0, 0, 12);
        Shops.line(shop, "  ");
        shop.send();
        shop.feed(500, 500, 500);
        shop.feed(500, 500, 499);
        Check.same("3000 beside 12", 3000, shop.feed(0, 0, 1));
        return shop;
    }

    private static void feedBesideSlugs() {
        HotMetalShop shop = besideSlug();
        Check.refused(shop, "3001 beside 12", Shops.STATE, () -> shop.feed(1, 0, 0));
        Check.text("slugs", "0 0 12", Shops.metal(shop, 's'));
    }

    private static void feedBehindMelting() {
        HotMetalShop shop = besideSlug();
        Check.same("melted", 12, shop.melt(0));
        Check.text("3012", "1000 1000 1012", Shops.metal(shop, 'p'));
        Check.refused(shop, "nothing can be fed", Shops.STATE, () -> shop.feed(0, 0, 0));
        Shops.line(shop, "  ");
        shop.send();
        Check.same("3000 again", 3000, shop.feed(0, 0, 0));
    }

    private static void metalOfNoPart() {
        HotMetalShop shop = new HotMetalShop();
        shop.feed(7, 8, 9);
        for (char wrong : new char[] {'x', 'T', ' ', 'p', 's', 'f', 'd', (char) 0, (char) 65535}) {
            Check.refused(shop, "part " + (int) wrong, Shops.ARGUMENT, () -> shop.metal(wrong, 'p'));
        }
        Check.same("tin", 7, shop.metal('t', 'p'));
        Check.same("antimony", 8, shop.metal('a', 'p'));
        Check.same("lead", 9, shop.metal('l', 'p'));
    }

    private static void metalInNoPlace() {
        HotMetalShop shop = new HotMetalShop();
        shop.feed(7, 8, 9);
        for (char wrong : new char[] {'x', 'P', ' ', 't', 'a', 'l', (char) 0, (char) 65535}) {
            Check.refused(shop, "place " + (int) wrong, Shops.ARGUMENT, () -> shop.metal('t', wrong));
        }
        for (char where : "sfd".toCharArray()) {
            Check.text("in " + where, "0 0 0", Shops.metal(shop, where));
        }
    }
}
