/** Promises 20 to 25: what the calls about time and metal answer. */
final class PotTests {
    private PotTests() {
    }

    static void run() {
        Check.test("20 returns the present tick then", PotTests::tick);
        Check.test("21 returns the tick", PotTests::now);
        Check.test("22 returns the wished heat before", PotTests::setHeat);
        Check.test("23 returns the heat of the pot", PotTests::heat);
        Check.test("23 returns less than can be wished, if much is cast", PotTests::heatBelowWishes);
        Check.test("24 returns how much metal the pot has then", PotTests::feed);
        Check.test("25 returns how much there is in the pot, slugs, on the floor and of dross", PotTests::metal);
    }

    private static void tick() {
        HotMetalShop shop = new HotMetalShop();
        Check.same("1", 1, shop.tick(1));
        Check.same("50", 51, shop.tick(50));
        Check.same("3", 54, shop.tick(3));
    }

    private static void now() {
        HotMetalShop shop = Shops.with("bc", 2, 12);
        Check.same("a new shop's", 0, shop.now());
        shop.tick(7);
        Check.same("7", 7, shop.now());
        shop.key('c');
        Check.same("keys take no time", 7, shop.now());
        shop.tick(2);
        shop.drop();
        Check.same("dropping takes none", 9, shop.now());
        Shops.compose(shop, "cb");
        Check.same("composing does", 11, shop.now());
    }

    private static void setHeat() {
        HotMetalShop shop = new HotMetalShop();
        Check.same("a new shop's", 280, shop.setHeat(200));
        Check.same("before", 200, shop.setHeat(350));
        Check.same("before", 350, shop.setHeat(281));
        Check.same("it is only wished", 280, shop.heat());
        shop.tick(50);
        Check.same("what is wished stays", 281, shop.setHeat(281));
    }

    private static void heat() {
        HotMetalShop shop = Shops.with("d", 2, 12);
        Check.same("a new shop's", 280, shop.heat());
        shop.tick(5);
        Check.same("as wished", 280, shop.heat());
        Shops.line(shop, "d d");
        shop.send();
        Check.same("colder by 5", 275, shop.heat());
        shop.tick(2);
        Check.same("nearer by 4", 279, shop.heat());
        shop.tick(1);
        Check.same("to it", 280, shop.heat());
    }

    private static void heatBelowWishes() {
        HotMetalShop shop = Shops.with("", 0, 12);
        shop.setHeat(200);
        shop.tick(40);
        Check.same("200", 200, shop.heat());
        Shops.line(shop, "  ");
        shop.send();
        Check.same("195", 195, shop.heat());
        shop.tick(1);
        Check.same("197", 197, shop.heat());
    }

    private static void feed() {
        HotMetalShop shop = new HotMetalShop();
        Check.same("nothing", 0, shop.feed(0, 0, 0));
        Check.same("some", 6, shop.feed(1, 2, 3));
        Check.text("pot", "1 2 3", Shops.metal(shop, 'p'));
        Check.same("500 of each", 1506, shop.feed(500, 500, 500));
        shop.setMeasure(12);
        Shops.line(shop, "  ");
        shop.send();
        Check.same("what was cast is not in it", 1494, shop.feed(0, 0, 0));
    }

    private static void metal() {
        HotMetalShop shop = Shops.with("", 0, 12);
        Check.text("pot", "30 30 240", Shops.metal(shop, 'p'));
        Shops.line(shop, "  ");
        shop.send();
        Check.text("slugs", "1 1 10", Shops.metal(shop, 's'));
        shop.setHeat(350);
        shop.tick(20);
        Check.text("dross", "2 2 0", Shops.metal(shop, 'd'));
        Shops.line(shop, "  ");
        shop.send();
        // 12 * 27 / 284 is 1.1
        Check.text("floor", "1 1 10", Shops.metal(shop, 'f'));
        Check.text("pot", "26 26 220", Shops.metal(shop, 'p'));
        shop.melt(0);
        Check.text("no slug is there", "0 0 0", Shops.metal(shop, 's'));
        Check.text("pot", "27 27 230", Shops.metal(shop, 'p'));
    }
}
