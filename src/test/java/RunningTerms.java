/** The document's terms "Running home" and "Heat and metal". */
final class RunningTerms {
    private static final String COMING = "Terms: As it begins, matrices that run and come in it";
    private static final String JAM = "Terms: If this channel is full, it jams";
    private static final String CLEARING = "Terms: To clear a channel takes all matrices out";
    private static final String HEAT = "Terms: The pot has a heat, 280 at first, and a wished one, 280 at first";
    private static final String BURNING = "Terms: In each 10th tick, 10, 20 and so on, if the heat is above 280 then";

    private RunningTerms() {
    }

    static void run() {
        Check.test("Terms: A tick has the number 1 more than the one before", RunningTerms::numbersOfTicks);
        Check.test(COMING + " - in the tick in which they come", RunningTerms::comeInTheirTick);
        Check.test(COMING + " - by their ticks, then by their numbers", RunningTerms::orderHome);
        Check.test(COMING + " - those that should have come earlier are first", RunningTerms::lateOnesFirst);
        Check.test(COMING + " - each one behind the others", RunningTerms::behindTheOthers);
        Check.test(COMING + " - of the next letter, if its wear is 9 or more", RunningTerms::astrayFrom9);
        Check.test(COMING + " - that of 'a' behind 'j'", RunningTerms::astrayFromTheLast);
        Check.test(COMING + " - from its own letter's, wherever it was", RunningTerms::notTwoFurther);
        Check.test(JAM + " - 12 in the channel", RunningTerms::jamsAt12);
        Check.test(JAM + " - all behind it wait", RunningTerms::allBehindWait);
        Check.test(JAM + " - what is ahead of it does not", RunningTerms::thoseAheadCome);
        Check.test(JAM + " - until a tick begins with room", RunningTerms::waitsForATick);
        Check.test(JAM + " - the channel of the next letter, too", RunningTerms::jamsAstray);
        Check.test(JAM + " - with room for some", RunningTerms::roomForSome);
        Check.test(CLEARING + " - its own come back in their order", RunningTerms::clearOwn);
        Check.test(CLEARING + " - others come behind those of their own", RunningTerms::clearOthers);
        Check.test(CLEARING + " - without room they stay, in the order that they had", RunningTerms::clearWithoutRoom);
        Check.test(CLEARING + " - with room for one", RunningTerms::clearWithRoomForOne);
        Check.test(HEAT, RunningTerms::firstHeats);
        Check.test(HEAT + " - nearer by 2, or to it", RunningTerms::nearerByTwo);
        Check.test(BURNING + " - in the tick 10, not in 9 or 11", RunningTerms::burningTicks);
        Check.test(BURNING + " - not at 280", RunningTerms::burningHeat);
        Check.test(BURNING + " - the heat of its own tick", RunningTerms::burningHeatThen);
        Check.test(BURNING + " - each if there is some", RunningTerms::burningOfEach);
        Check.test("Terms: The pot is empty at first", RunningTerms::emptyPot);
    }

    private static void numbersOfTicks() {
        HotMetalShop shop = new HotMetalShop();
        Check.same("the first one", 1, shop.tick(1));
        Check.same("the next one", 2, shop.tick(1));
        Check.same("50 more", 52, shop.tick(50));
        Check.same("now", 52, shop.now());
    }

    private static void comeInTheirTick() {
        HotMetalShop shop = Shops.with("a", 2, 12);
        shop.tick(3);
        Shops.line(shop, "aa");
        shop.drop();
        shop.tick(4);
        Check.text("in 7", "rr", Shops.places(shop, 2));
        shop.tick(1);
        Check.text("in 8", "mr", Shops.places(shop, 2));
        shop.tick(1);
        Check.text("in 9", "mm", Shops.places(shop, 2));
    }

    private static void orderHome() {
        HotMetalShop shop = new HotMetalShop();
        shop.addMatrices('a', 4);
        Shops.line(shop, "aa");
        shop.drop();
        shop.tick(6);
        // 2 3 0 1: now 2 runs until 11, 3 until 12
        Shops.line(shop, "aa");
        shop.drop();
        shop.tick(1);
        // and 0 until 12, too
        shop.key('a');
        shop.drop();
        shop.tick(4);
        Check.text("2 comes ahead of 0", "rmmr", Shops.places(shop, 4));
        shop.tick(1);
        Check.text("0 ahead of 3", "1 2 0 3", Shops.order(shop, 'a'));
    }

    private static void lateOnesFirst() {
        HotMetalShop shop = new HotMetalShop();
        shop.addMatrices('a', 4);
        Shops.line(shop, "aa");
        shop.drop();
        shop.tick(6);
        // 2 3 0 1: now they should come in 11, 12, 13, 14, and have no room until 27
        Shops.line(shop, "aaaa");
        shop.addMatrices('a', 12);
        shop.drop();
        shop.tick(20);
        Check.yes("all wait", shop.isJammed());
        Shops.line(shop, "aaa");
        shop.tick(1);
        Check.text("all but the last one", "mrmm", Shops.places(shop, 4));
        Shops.line(shop, "a");
        shop.tick(1);
        Check.no("none waits", shop.isJammed());
        Check.text("by ticks", "8 9 10 11 12 13 14 15 2 3 0 1", Shops.order(shop, 'a'));
    }

    private static void behindTheOthers() {
        HotMetalShop shop = new HotMetalShop();
        shop.addMatrices('a', 3);
        shop.key('a');
        shop.drop();
        shop.tick(4);
        shop.addMatrices('a', 1);
        shop.tick(1);
        Check.text("behind what was added", "1 2 3 0", Shops.order(shop, 'a'));
    }

    private static void astrayFrom9() {
        HotMetalShop shop = Shops.with("de", 2, 12);
        Shops.wear(shop, 8);
        Check.same("wear", 8, shop.wearOf(0));
        Check.sign("with 8", 'd', shop.channelOf(0));
        Shops.wear(shop, 1);
        Check.same("wear", 9, shop.wearOf(0));
        Check.sign("with 9", 'e', shop.channelOf(0));
        Check.sign("it keeps its letter", 'd', shop.letterOf(0));
        Check.text("behind the others", "2 3 0 1", Shops.order(shop, 'e'));
    }

    private static void astrayFromTheLast() {
        HotMetalShop shop = Shops.with("aj", 2, 12);
        for (int i = 0; i < 9; i++) {
            Shops.line(shop, "j j ");
            shop.send();
            shop.tick(6);
        }
        Check.sign("astray", 'a', shop.channelOf(2));
        Check.text("behind the others", "0 1 2 3", Shops.order(shop, 'a'));
    }

    private static void notTwoFurther() {
        HotMetalShop shop = Shops.astray();
        Shops.line(shop, "e e");
        shop.tick(1);
        shop.drop();
        shop.tick(6);
        Check.sign("dropped", 'e', shop.channelOf(0));
        Shops.line(shop, "ee ");
        shop.tick(1);
        shop.send();
        Check.same("wear", 10, shop.wearOf(1));
        shop.tick(6);
        Check.sign("with 10", 'e', shop.channelOf(1));
    }

    private static void jamsAt12() {
        HotMetalShop shop = Shops.with("a", 12, 12);
        Shops.line(shop, "aa");
        shop.addMatrices('a', 1);
        shop.drop();
        shop.tick(5);
        Check.same("12", 12, shop.channel('a'));
        Check.sign("the first one came", 'm', shop.placeOf(0));
        Check.no("none waits", shop.isJammed());
        shop.tick(1);
        Check.same("12", 12, shop.channel('a'));
        Check.sign("the second one waits", 'r', shop.placeOf(1));
        Check.yes("it waits", shop.isJammed());
    }

    private static void allBehindWait() {
        HotMetalShop shop = Shops.jammed();
        Check.sign("a waits", 'r', shop.placeOf(0));
        Check.sign("j waits, too", 'r', shop.placeOf(12));
        Check.same("though its channel is empty", 0, shop.channel('j'));
        shop.tick(50);
        Check.sign("as long as a is full", 'r', shop.placeOf(12));
        shop.key('a');
        shop.tick(1);
        Check.sign("a came", 'm', shop.placeOf(0));
        Check.sign("and j", 'm', shop.placeOf(12));
    }

    private static void thoseAheadCome() {
        HotMetalShop shop = Shops.with("a", 12, 12);
        shop.addMatrices('j', 1);
        Shops.line(shop, "ja");
        shop.addMatrices('a', 1);
        shop.drop();
        shop.tick(5);
        Check.sign("j came", 'm', shop.placeOf(12));
        Check.no("none waits", shop.isJammed());
        shop.tick(1);
        Check.sign("a waits", 'r', shop.placeOf(0));
        Check.yes("it waits", shop.isJammed());
    }

    private static void waitsForATick() {
        HotMetalShop shop = Shops.jammed();
        shop.key('a');
        Check.sign("no tick has begun", 'r', shop.placeOf(0));
        Check.same("there is room", 11, shop.channel('a'));
        Check.yes("it waits", shop.isJammed());
        shop.tick(1);
        Check.sign("a tick has begun", 'm', shop.placeOf(0));
        Check.text("behind the others", "2 3 4 5 6 7 8 9 10 11 13 0", Shops.order(shop, 'a'));
    }

    private static void jamsAstray() {
        HotMetalShop shop = Shops.with("d", 2, 12);
        Shops.wear(shop, 8);
        shop.addMatrices('e', 11);
        Shops.line(shop, "d d");
        shop.send();
        shop.tick(6);
        Check.same("e is full", 12, shop.channel('e'));
        Check.same("d is empty", 0, shop.channel('d'));
        Check.sign("the second one waits", 'r', shop.placeOf(1));
        Check.yes("it waits", shop.isJammed());
        shop.clear('e');
        shop.tick(1);
        Check.sign("the first one was brought home", 'd', shop.channelOf(0));
        Check.sign("the second one came", 'e', shop.channelOf(1));
    }

    private static void roomForSome() {
        HotMetalShop shop = Shops.with("a", 12, 12);
        Shops.line(shop, "aaaa");
        shop.addMatrices('a', 4);
        shop.drop();
        shop.tick(20);
        Check.text("all wait", "rrrr", Shops.places(shop, 4));
        Shops.line(shop, "aa");
        shop.tick(1);
        Check.text("two came", "mmrr", Shops.places(shop, 4));
        Check.yes("two wait", shop.isJammed());
        shop.tick(1);
        Check.text("no more room", "mmrr", Shops.places(shop, 4));
        Shops.line(shop, "aa");
        shop.tick(1);
        Check.text("all came", "mmmm", Shops.places(shop, 4));
        Check.no("none waits", shop.isJammed());
    }

    /** A shop whose channel e holds 0 1 of d, then 2 3 of e. */
    private static HotMetalShop othersInFront() {
        HotMetalShop shop = Shops.astray();
        shop.addMatrices('e', 2);
        return shop;
    }

    private static void clearOwn() {
        HotMetalShop shop = new HotMetalShop();
        shop.addMatrices('a', 4);
        shop.key('a');
        shop.drop();
        shop.tick(5);
        Check.same("no others", 0, shop.clear('a'));
        Check.text("as they were", "1 2 3 0", Shops.order(shop, 'a'));
        Check.same("an empty channel", 0, shop.clear('b'));
        HotMetalShop other = othersInFront();
        other.clear('e');
        Check.text("behind others", "2 3", Shops.order(other, 'e'));
    }

    private static void clearOthers() {
        HotMetalShop shop = othersInFront();
        shop.addMatrices('d', 2);
        Check.same("two of d", 2, shop.clear('e'));
        Check.text("d", "4 5 0 1", Shops.order(shop, 'd'));
        HotMetalShop other = othersInFront();
        Check.same("none in d", 0, other.clear('d'));
        Check.same("they are still in e", 4, other.channel('e'));
    }

    private static void clearWithoutRoom() {
        HotMetalShop shop = othersInFront();
        Shops.line(shop, "ee");
        shop.tick(1);
        shop.drop();
        shop.tick(6);
        shop.addMatrices('e', 2);
        shop.addMatrices('d', 12);
        Check.same("two of d", 2, shop.clear('e'));
        Check.text("they stay in their places", "2 3 0 1 4 5", Shops.order(shop, 'e'));
        HotMetalShop other = othersInFront();
        other.addMatrices('d', 12);
        Check.same("two of d", 2, other.clear('e'));
        Check.text("they stay in front", "0 1 2 3", Shops.order(other, 'e'));
    }

    private static void clearWithRoomForOne() {
        HotMetalShop shop = othersInFront();
        shop.addMatrices('d', 11);
        Check.same("two of d", 2, shop.clear('e'));
        Check.same("d is full", 12, shop.channel('d'));
        Check.text("e", "1 2 3", Shops.order(shop, 'e'));
        Check.text("d", "4 5 6 7 8 9 10 11 12 13 14 0", Shops.order(shop, 'd'));
    }

    private static void firstHeats() {
        HotMetalShop shop = new HotMetalShop();
        Check.same("heat", 280, shop.heat());
        shop.tick(9);
        Check.same("it stays", 280, shop.heat());
        Check.same("wished", 280, shop.setHeat(280));
    }

    private static void nearerByTwo() {
        HotMetalShop shop = new HotMetalShop();
        int[][] ways = {{283, 282, 283, 283}, {280, 281, 280, 280}, {281, 281, 281, 281}, {279, 279, 279, 279},
            {276, 277, 276, 276}, {278, 278, 278, 278}};
        for (int[] way : ways) {
            shop.setHeat(way[0]);
            for (int i = 1; i < way.length; i++) {
                shop.tick(1);
                Check.same("to " + way[0] + ", tick " + i, way[i], shop.heat());
            }
        }
        shop.setHeat(350);
        shop.tick(35);
        Check.same("348", 348, shop.heat());
        shop.tick(1);
        Check.same("350", 350, shop.heat());
        shop.setHeat(200);
        shop.tick(50);
        Check.same("250", 250, shop.heat());
        shop.tick(50);
        Check.same("200", 200, shop.heat());
    }

    private static void burningTicks() {
        HotMetalShop shop = new HotMetalShop();
        shop.feed(5, 6, 7);
        shop.setHeat(300);
        shop.tick(9);
        Check.text("in 9", "0 0 0", Shops.metal(shop, 'd'));
        shop.tick(1);
        Check.text("in 10", "1 1 0", Shops.metal(shop, 'd'));
        shop.tick(9);
        Check.text("in 19", "1 1 0", Shops.metal(shop, 'd'));
        shop.tick(1);
        Check.text("in 20", "2 2 0", Shops.metal(shop, 'd'));
        shop.tick(20);
        Check.text("in 30 and 40", "4 4 0", Shops.metal(shop, 'd'));
        Check.text("pot", "1 2 7", Shops.metal(shop, 'p'));
    }

    private static void burningHeat() {
        HotMetalShop shop = new HotMetalShop();
        shop.feed(5, 5, 5);
        shop.tick(10);
        Check.text("at 280", "0 0 0", Shops.metal(shop, 'd'));
        shop.setHeat(281);
        shop.tick(10);
        Check.text("at 281", "1 1 0", Shops.metal(shop, 'd'));
        shop.setHeat(279);
        shop.tick(10);
        Check.text("at 279", "1 1 0", Shops.metal(shop, 'd'));
    }

    private static void burningHeatThen() {
        HotMetalShop shop = new HotMetalShop();
        shop.feed(5, 5, 5);
        shop.tick(9);
        shop.setHeat(281);
        shop.tick(1);
        Check.text("281 since the tick 10", "1 1 0", Shops.metal(shop, 'd'));
        shop.tick(9);
        shop.setHeat(280);
        shop.tick(1);
        Check.text("280 since the tick 20", "1 1 0", Shops.metal(shop, 'd'));
    }

    private static void burningOfEach() {
        HotMetalShop shop = new HotMetalShop();
        shop.feed(1, 2, 3);
        shop.setHeat(350);
        shop.tick(20);
        Check.text("the tin is gone", "1 2 0", Shops.metal(shop, 'd'));
        shop.tick(20);
        Check.text("both are gone", "1 2 0", Shops.metal(shop, 'd'));
        Check.text("lead does not burn", "0 0 3", Shops.metal(shop, 'p'));
        HotMetalShop other = new HotMetalShop();
        other.feed(2, 0, 0);
        other.setHeat(350);
        other.tick(10);
        Check.text("without antimony", "1 0 0", Shops.metal(other, 'd'));
        HotMetalShop empty = new HotMetalShop();
        empty.setHeat(350);
        empty.tick(20);
        Check.text("an empty pot", "0 0 0", Shops.metal(empty, 'd'));
    }

    private static void emptyPot() {
        HotMetalShop shop = new HotMetalShop();
        Check.text("pot", "0 0 0", Shops.metal(shop, 'p'));
        Check.same("all", 0, shop.feed(0, 0, 0));
        Check.same("what is fed", 1, shop.feed(0, 0, 1));
    }
}
