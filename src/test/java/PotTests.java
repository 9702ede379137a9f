/** Promises 20 to 25: time and metal. */
final class PotTests {
    private PotTests() {
    }

    static void run() {
        Check.test("20, 21: tick and now", PotTests::tick);
        Check.test("22: setHeat", PotTests::setHeat);
        Check.test("23: heat comes nearer by 2, or to the wished one", PotTests::heat);
        Check.test("24: feed", PotTests::feed);
        Check.test("24: a melted slug may fill the pot above 3000", PotTests::feedBehindMelting);
        Check.test("25: metal", PotTests::metal);
        Check.test("25: tin and antimony burn in each 10th tick", PotTests::burning);
        Check.test("25: burning looks at the heat of its own tick", PotTests::burningAndHeat);
        Check.test("25: each part burns if there is some", PotTests::burningOfEachPart);
    }

    private static void tick() {
        HotMetalShop shop = new HotMetalShop();
        Check.same("1", 1, shop.tick(1));
        Check.same("now", 1, shop.now());
        Check.same("50", 51, shop.tick(50));
        for (int wrong : new int[] {0, 51, -1, Integer.MAX_VALUE, Integer.MIN_VALUE}) {
            Check.refused("ticks " + wrong, Shops.ARGUMENT, () -> shop.tick(wrong));
        }
        Check.same("now", 51, shop.now());
        Shops.ticks(shop, 2948);
        Check.refused("3001", Shops.STATE, () -> shop.tick(2));
        Check.same("3000", 3000, shop.tick(1));
        Check.refused("3001", Shops.STATE, () -> shop.tick(1));
        Check.refused("the number is looked at first", Shops.ARGUMENT, () -> shop.tick(51));
        Check.same("now", 3000, shop.now());
    }

    private static void setHeat() {
        HotMetalShop shop = new HotMetalShop();
        Check.same("before", 280, shop.setHeat(200));
        Check.same("before", 200, shop.setHeat(350));
        for (int wrong : new int[] {199, 351, 0, -280, Integer.MAX_VALUE, Integer.MIN_VALUE}) {
            Check.refused("heat " + wrong, Shops.ARGUMENT, () -> shop.setHeat(wrong));
        }
        Check.same("nothing was set", 350, shop.setHeat(280));
        Check.same("it is only wished", 280, shop.heat());
    }

    private static void heat() {
        HotMetalShop shop = Shops.with("d", 2, 12);
        Check.same("a new shop's", 280, shop.heat());
        shop.tick(5);
        Check.same("as wished", 280, shop.heat());
        shop.setHeat(283);
        shop.tick(1);
        Check.same("nearer by 2", 282, shop.heat());
        shop.tick(1);
        Check.same("to it", 283, shop.heat());
        shop.setHeat(280);
        shop.tick(1);
        Check.same("nearer by 2", 281, shop.heat());
        shop.tick(1);
        Check.same("to it", 280, shop.heat());
        Shops.line(shop, "d d");
        shop.send();
        Check.same("colder by 5", 275, shop.heat());
        shop.tick(2);
        Check.same("nearer by 4", 279, shop.heat());
        shop.tick(1);
        Check.same("to it", 280, shop.heat());
        shop.setHeat(200);
        shop.tick(50);
        Check.same("200", 200, shop.heat());
    }

    private static void feed() {
        HotMetalShop shop = new HotMetalShop();
        Check.same("nothing", 0, shop.feed(0, 0, 0));
        Check.same("some", 6, shop.feed(1, 2, 3));
        Check.text("pot", "1 2 3", Shops.metal(shop, 'p'));
        for (int wrong : new int[] {-1, 501, Integer.MAX_VALUE, Integer.MIN_VALUE}) {
            Check.refused("tin " + wrong, Shops.ARGUMENT, () -> shop.feed(wrong, 0, 0));
            Check.refused("antimony " + wrong, Shops.ARGUMENT, () -> shop.feed(0, wrong, 0));
            Check.refused("lead " + wrong, Shops.ARGUMENT, () -> shop.feed(0, 0, wrong));
        }
        Check.same("500 of each", 1506, shop.feed(500, 500, 500));
        Check.refused("3006", Shops.STATE, () -> shop.feed(500, 500, 500));
        Check.same("3000", 3000, shop.feed(494, 500, 500));
        Check.refused("3001", Shops.STATE, () -> shop.feed(0, 1, 0));
        Check.refused("the numbers are looked at first", Shops.ARGUMENT, () -> shop.feed(0, 0, 501));
        Check.same("nothing more", 3000, shop.feed(0, 0, 0));
        Check.text("pot", "995 1002 1003", Shops.metal(shop, 'p'));
    }

    private static void feedBehindMelting() {
        HotMetalShop shop = new HotMetalShop();
        shop.addMatrices('d', 2);
        shop.setMeasure(12);
        shop.feed(0, 0, 12);
        Shops.line(shop, "d d");
        shop.send();
        shop.feed(500, 500, 500);
        Check.same("3000", 3000, shop.feed(500, 500, 500));
        Check.same("melted", 12, shop.melt(0));
        Check.same("lead", 1012, shop.metal('l', 'p'));
        Check.refused("nothing fits", Shops.STATE, () -> shop.feed(0, 0, 0));
    }

    private static void metal() {
        HotMetalShop shop = new HotMetalShop();
        shop.feed(7, 8, 9);
        Check.same("tin", 7, shop.metal('t', 'p'));
        Check.same("antimony", 8, shop.metal('a', 'p'));
        Check.same("lead", 9, shop.metal('l', 'p'));
        for (char where : "sfd".toCharArray()) {
            Check.text("in " + where, "0 0 0", Shops.metal(shop, where));
        }
        for (char wrong : new char[] {'x', 'T', ' ', 'p', 's', (char) 0, (char) 65535}) {
            Check.refused("part " + (int) wrong, Shops.ARGUMENT, () -> shop.metal(wrong, 'p'));
        }
        for (char wrong : new char[] {'x', 'P', ' ', 't', 'a', (char) 0, (char) 65535}) {
            Check.refused("place " + (int) wrong, Shops.ARGUMENT, () -> shop.metal('t', wrong));
        }
    }

    private static void burning() {
        HotMetalShop shop = new HotMetalShop();
        shop.feed(5, 6, 7);
        shop.tick(10);
        Check.text("none at 280", "0 0 0", Shops.metal(shop, 'd'));
        shop.setHeat(290);
        shop.tick(9);
        Check.text("not in the tick 19", "0 0 0", Shops.metal(shop, 'd'));
        shop.tick(1);
        Check.text("in the tick 20", "1 1 0", Shops.metal(shop, 'd'));
        Check.text("pot", "4 5 7", Shops.metal(shop, 'p'));
        shop.tick(30);
        Check.text("in the ticks 30, 40, 50", "4 4 0", Shops.metal(shop, 'd'));
        Check.yes("isSound", shop.isSound());
    }

    private static void burningAndHeat() {
        HotMetalShop shop = new HotMetalShop();
        shop.feed(5, 5, 5);
        shop.tick(9);
        shop.setHeat(281);
        shop.tick(1);
        Check.text("it is 281 in the tick 10", "1 1 0", Shops.metal(shop, 'd'));
        shop.tick(9);
        shop.setHeat(280);
        shop.tick(1);
        Check.text("it is 280 in the tick 20", "1 1 0", Shops.metal(shop, 'd'));
    }

    private static void burningOfEachPart() {
        HotMetalShop shop = new HotMetalShop();
        shop.feed(1, 2, 3);
        shop.setHeat(350);
        shop.tick(20);
        Check.text("without tin", "1 2 0", Shops.metal(shop, 'd'));
        shop.tick(20);
        Check.text("without both", "1 2 0", Shops.metal(shop, 'd'));
        Check.text("pot", "0 0 3", Shops.metal(shop, 'p'));
        HotMetalShop other = new HotMetalShop();
        other.feed(2, 0, 0);
        other.setHeat(300);
        other.tick(10);
        Check.text("without antimony", "1 0 0", Shops.metal(other, 'd'));
    }
}
