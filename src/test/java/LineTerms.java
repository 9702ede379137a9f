/** The document's terms "Matrices", "Falling" and "Sending". */
final class LineTerms {
    private LineTerms() {
    }

    static void run() {
        Check.test("Terms: Each matrix is in one place at each moment, and the parts of the metal balance",
                LineTerms::onePlaceAndBalance);
        Check.test("Terms: There are 10 letters", LineTerms::tenLetters);
        Check.test("Terms: The width of the letter number k is 2 plus k modulo 4", LineTerms::widths);
        Check.test("Terms: Each letter has a channel, with at most 12 matrices in an order",
                LineTerms::channelsInOrder);
        Check.test("Terms: At most 60 matrices are numbered from 0", LineTerms::sixtyMatrices);
        Check.test("Terms: A key lets the front matrix of the channel of its letter fall - whatever letter it is of",
                LineTerms::keyOfAstray);
        Check.test("Terms: A key lets the front matrix of the channel of its letter fall - modulo 3",
                LineTerms::delays);
        Check.test("Terms: A wedge comes at once", LineTerms::wedgeAtOnce);
        Check.test("Terms: What comes stands in the line by the tick in which it comes", LineTerms::orderByTicks);
        Check.test("Terms: What comes stands in the line - in a tick by the order of telling", LineTerms::orderInTick);
        Check.test("Terms: A line can be sent if all is there, and it fills its measure, 30 at first",
                LineTerms::firstMeasure);
        Check.test("Terms: A line can be sent if all is there - 2 to 6 for each wedge", LineTerms::twoToSix);
        Check.test("Terms: What is wanting to the letters is shared among the wedges", LineTerms::sharing);
        Check.test("Terms: By sending, a slug is cast - parts are rounded down", LineTerms::partsRoundedDown);
        Check.test("Terms: By sending, a slug is cast - without so much lead, tin", LineTerms::tinForLead);
        Check.test("Terms: By sending, a slug is cast - all that is in the pot", LineTerms::wholePot);
        Check.test("Terms: If the pot is hotter than 300, it squirts", LineTerms::squirtsAbove300);
        Check.test("Terms: If it is colder than 250, the slug is cold", LineTerms::coldBelow250);
        Check.test("Terms: If it is colder than 250 - if a matrix had a wear of 6 or more, it has a hair line",
                LineTerms::hairLineFrom6);
        Check.test("Terms: A slug that is neither is good, and is paid by as many ems as the measure", LineTerms::pay);
        Check.test("Terms: Then, with a slug or not, the pot is colder by 5 - and wear is greater by 1",
                LineTerms::colderAndWorn);
        Check.test("Terms: Then, with a slug or not, the pot is colder by 5 - the place i comes 5 + i later",
                LineTerms::homeByPlaces);
        Check.test("Terms: The line is empty then", LineTerms::emptyThen);
    }

    /** Looks for each matrix in channels, line and running, and adds up the metal of all places. */
    private static void balance(String when, HotMetalShop shop, int matrices, String fed) {
        int lying = 0;
        for (char letter = 'a'; letter <= 'j'; letter++) {
            lying += shop.channel(letter);
        }
        String places = Shops.places(shop, matrices);
        Check.same(when + ": in channels", lying, places.replaceAll("[^m]", "").length());
        Check.same(when + ": in the line", Shops.lineOf(shop).replace(" ", "").length(),
                places.replaceAll("[^l]", "").length());
        StringBuilder sums = new StringBuilder();
        for (char part : "tal".toCharArray()) {
            int sum = 0;
            for (char where : "psfd".toCharArray()) {
                sum += shop.metal(part, where);
            }
            sums.append(sums.length() == 0 ? "" : " ").append(sum);
        }
        Check.text(when + ": metal", fed, sums.toString());
        Check.yes(when + ": isSound", shop.isSound());
    }

    private static void onePlaceAndBalance() {
        HotMetalShop shop = Shops.with("bd", 3, 12);
        String fed = "30 30 240";
        balance("new", shop, 6, fed);
        Shops.line(shop, "d bd");
        balance("falling", shop, 6, fed);
        shop.tick(1);
        shop.drop();
        balance("running", shop, 6, fed);
        shop.tick(6);
        balance("coming", shop, 6, fed);
        shop.tick(1);
        Shops.line(shop, "d d");
        shop.send();
        balance("sent", shop, 6, fed);
        shop.setHeat(350);
        shop.tick(20);
        balance("burning", shop, 6, fed);
        Shops.line(shop, "d d");
        shop.send();
        balance("on the floor", shop, 6, fed);
        shop.setHeat(280);
        shop.tick(20);
        Shops.compose(shop, "d d b");
        balance("composed", shop, 6, fed);
        shop.mark(2, 0, 'b');
        shop.tick(20);
        shop.correct(0);
        balance("corrected", shop, 6, fed);
        shop.melt(0);
        balance("melted", shop, 6, fed);
    }

    private static void tenLetters() {
        HotMetalShop shop = new HotMetalShop();
        for (char letter = 'a'; letter <= 'j'; letter++) {
            shop.addMatrices(letter, 1);
            Check.sign("letter", letter, shop.letterOf(letter - 'a'));
            Check.sign("channel", letter, shop.channelOf(letter - 'a'));
            Check.same("front", letter - 'a', shop.front(letter));
        }
        Check.noLetters(shop, letter -> shop.addMatrices(letter, 1));
        Check.noLetters(shop, shop::channel);
        Check.noLetters(shop, shop::front);
        Check.noLetters(shop, shop::clear);
        Check.noLetters(shop, shop::key);
    }

    private static void widths() {
        HotMetalShop shop = new HotMetalShop();
        int[] widths = {2, 3, 4, 5, 2, 3, 4, 5, 2, 3};
        int left = 30;
        for (char letter = 'a'; letter <= 'j'; letter++) {
            shop.addMatrices(letter, 1);
            shop.key(letter);
            left -= widths[letter - 'a'];
            Check.same("with " + letter, left, shop.wanting());
        }
    }

    private static void channelsInOrder() {
        HotMetalShop shop = new HotMetalShop();
        shop.addMatrices('a', 1);
        shop.addMatrices('b', 1);
        shop.addMatrices('a', 11);
        Check.refused(shop, "13", Shops.STATE, () -> shop.addMatrices('a', 1));
        Check.text("12 of a", "0 2 3 4 5 6 7 8 9 10 11 12", Shops.order(shop, 'a'));
        Check.text("1 of b", "1", Shops.order(shop, 'b'));
    }

    private static void sixtyMatrices() {
        HotMetalShop shop = new HotMetalShop();
        for (char letter = 'a'; letter <= 'j'; letter++) {
            Check.same("in all", 6 * (letter - 'a' + 1), shop.addMatrices(letter, 6));
        }
        for (int matrix = 0; matrix < 60; matrix++) {
            Check.sign("letter of " + matrix, (char) ('a' + matrix / 6), shop.letterOf(matrix));
            Check.same("wear of " + matrix, 0, shop.wearOf(matrix));
        }
        Check.refused(shop, "61", Shops.STATE, () -> shop.addMatrices('a', 1));
    }

    private static void keyOfAstray() {
        HotMetalShop shop = Shops.astray();
        shop.addMatrices('e', 1);
        Check.same("the front one", 0, shop.key('e'));
        Check.sign("is of d", 'd', shop.signAt(0));
        Check.refused(shop, "it falls as from e", Shops.UNSUPPORTED, shop::drop);
        shop.tick(1);
        Check.same("1 tick later", 1, shop.drop());
    }

    private static void delays() {
        int[] ticks = {0, 1, 2, 0, 1, 2, 0, 1, 2, 0};
        for (char letter = 'a'; letter <= 'j'; letter++) {
            HotMetalShop shop = new HotMetalShop();
            shop.addMatrices(letter, 1);
            shop.tick(4);
            shop.key(letter);
            for (int falls = ticks[letter - 'a']; falls > 0; falls--) {
                Check.refused(shop, letter + " falls", Shops.UNSUPPORTED, shop::drop);
                shop.tick(1);
            }
            Check.same(letter + " is there", 1, shop.drop());
        }
    }

    private static void wedgeAtOnce() {
        HotMetalShop shop = Shops.with("b", 1, 12);
        Shops.line(shop, "b ");
        Check.text("ahead of b, that falls", " b", Shops.lineOf(shop));
        shop.tick(1);
        Shops.line(shop, " ");
        Check.text("behind b, that came", " b ", Shops.lineOf(shop));
        shop.drop();
        Shops.line(shop, "  ");
        Check.same("no tick is wanted", 0, shop.send());
    }

    private static void orderByTicks() {
        HotMetalShop shop = Shops.with("abc", 3, 30);
        Shops.line(shop, "cba");
        Check.text("in 2, 1 and 0", "abc", Shops.lineOf(shop));
        shop.tick(1);
        Shops.line(shop, "a");
        Check.text("in 1, behind b and ahead of c", "abac", Shops.lineOf(shop));
        shop.tick(1);
        Shops.line(shop, "a");
        Check.text("in 2, behind c", "abaca", Shops.lineOf(shop));
    }

    private static void orderInTick() {
        HotMetalShop shop = Shops.with("abc", 3, 30);
        Shops.line(shop, "c");
        shop.tick(1);
        Shops.line(shop, "bb");
        shop.tick(1);
        // c was told in 0, b twice in 1, and now a and a wedge: all of them come in 2
        Shops.line(shop, "a a");
        Check.text("by telling", "cbba a", Shops.lineOf(shop));
    }

    private static void firstMeasure() {
        HotMetalShop shop = new HotMetalShop();
        shop.addMatrices('d', 7);
        shop.feed(30, 30, 240);
        Shops.line(shop, "ddddd");
        Check.refused(shop, "25", Shops.UNSUPPORTED, shop::send);
        Shops.line(shop, "d");
        Check.same("30", 0, shop.send());
        Check.same("as much metal", 270, shop.feed(0, 0, 0));
        Check.same("as many ems", 30, shop.ems());
    }

    private static void twoToSix() {
        for (int wedges = 0; wedges <= 4; wedges++) {
            for (int measure = 12; measure <= 60; measure++) {
                HotMetalShop shop = Shops.with("d", 4, measure);
                Shops.line(shop, "dddd".substring(0, 2 + wedges % 3) + "    ".substring(0, wedges));
                int wanting = shop.wanting();
                if (wanting >= 2 * wedges && wanting <= 6 * wedges) {
                    Check.same(wedges + " in " + wanting, 0, shop.send());
                } else {
                    Check.refused(shop, wedges + " in " + wanting, Shops.UNSUPPORTED, shop::send);
                }
            }
        }
    }

    /** The widths of the wedges of a slug, in their order. */
    private static String spaces(HotMetalShop shop, int slug) {
        StringBuilder text = new StringBuilder();
        for (int i = 0; i < shop.lengthOf(slug); i++) {
            if (shop.proof(slug, i) == ' ') {
                text.append(shop.spaceAt(slug, i));
            }
        }
        return text.toString();
    }

    private static void sharing() {
        String[] due = {"222", "322", "332", "333", "433", "443", "444", "544", "554", "555", "655", "665", "666"};
        for (int i = 0; i < due.length; i++) {
            HotMetalShop shop = Shops.with("d", 2, 16 + i);
            Shops.line(shop, " d d ");
            shop.send();
            Check.text(6 + i + " among 3", due[i], spaces(shop, 0));
        }
    }

    private static HotMetalShop withPot(int tin, int antimony, int lead) {
        HotMetalShop shop = new HotMetalShop();
        shop.addMatrices('d', 4);
        shop.setMeasure(12);
        shop.feed(tin, antimony, lead);
        Shops.line(shop, "d d");
        shop.send();
        return shop;
    }

    private static void partsRoundedDown() {
        HotMetalShop shop = withPot(59, 33, 8);
        // 12 * 59 / 100 = 7.08, 12 * 33 / 100 = 3.96
        Check.text("slugs", "7 3 2", Shops.metal(shop, 's'));
        Check.text("pot", "52 30 6", Shops.metal(shop, 'p'));
        Shops.line(shop, "d d");
        shop.send();
        // 12 * 52 / 88 = 7.09, 12 * 30 / 88 = 4.09
        Check.text("slugs", "14 7 3", Shops.metal(shop, 's'));
        Check.text("just whole parts", "3 6 3", Shops.metal(withPot(25, 50, 25), 's'));
        Check.text("less than 1 is none", "0 0 12", Shops.metal(withPot(8, 8, 84), 's'));
    }

    private static void tinForLead() {
        HotMetalShop shop = withPot(7, 5, 1);
        // 12 * 7 / 13 = 6.5, 12 * 5 / 13 = 4.6: of the 2 that are left, 1 is lead, 1 more tin
        Check.text("slugs", "7 4 1", Shops.metal(shop, 's'));
        Check.text("pot", "0 1 0", Shops.metal(shop, 'p'));
        // 12 * 7 / 14 = 6, 12 * 5 / 14 = 4.3: just the 2 of lead that there are
        Check.text("just enough lead", "6 4 2", Shops.metal(withPot(7, 5, 2), 's'));
        Check.text("no lead", "7 5 0", Shops.metal(withPot(8, 6, 0), 's'));
        Check.text("tin alone", "12 0 0", Shops.metal(withPot(100, 0, 0), 's'));
    }

    private static void wholePot() {
        HotMetalShop shop = withPot(5, 4, 3);
        Check.text("slugs", "5 4 3", Shops.metal(shop, 's'));
        Check.text("pot", "0 0 0", Shops.metal(shop, 'p'));
        Check.text("antimony alone", "0 12 0", Shops.metal(withPot(0, 12, 0), 's'));
    }

    private static void squirtsAbove300() {
        HotMetalShop shop = Shops.with("d", 4, 12);
        shop.setHeat(300);
        shop.tick(10);
        Shops.line(shop, "d d");
        Check.same("at 300", 0, shop.send());
        shop.setHeat(301);
        shop.tick(9);
        Check.same("heat", 301, shop.heat());
        Shops.line(shop, "d d");
        Check.same("at 301", -1, shop.send());
        Check.same("no slug", 1, shop.slugs());
        Check.same("no pay", 12, shop.ems());
        // 1 of tin and 1 of antimony burnt in the tick 10; 12 * 28 / 286 = 1.2
        Check.text("floor", "1 1 10", Shops.metal(shop, 'f'));
        Check.text("slugs", "1 1 10", Shops.metal(shop, 's'));
        Check.text("pot", "27 27 220", Shops.metal(shop, 'p'));
        Check.yes("isSound", shop.isSound());
    }

    private static void coldBelow250() {
        HotMetalShop shop = Shops.with("d", 4, 12);
        shop.setHeat(250);
        shop.tick(15);
        Shops.line(shop, "d d");
        shop.send();
        Check.no("at 250", shop.isCold(0));
        shop.setHeat(249);
        shop.tick(2);
        Check.same("heat", 249, shop.heat());
        Shops.line(shop, "d d");
        shop.send();
        Check.yes("at 249", shop.isCold(1));
        Check.no("no hair line by that", shop.hasHairLine(1));
        shop.setHeat(280);
        shop.tick(20);
        Check.yes("it stays cold", shop.isCold(1));
    }

    private static void hairLineFrom6() {
        HotMetalShop shop = Shops.with("d", 2, 12);
        Shops.wear(shop, 6);
        Check.no("with a wear of 5", shop.hasHairLine(5));
        Check.same("wear", 6, shop.wearOf(0));
        Shops.wear(shop, 1);
        Check.yes("with a wear of 6", shop.hasHairLine(6));
        shop.mend(0);
        Shops.wear(shop, 1);
        Check.yes("with a wear of 7 and one of 0", shop.hasHairLine(7));
        shop.mend(1);
        Shops.wear(shop, 1);
        Check.no("with a wear of 1 and one of 0", shop.hasHairLine(8));
        Check.no("not cold by that", shop.isCold(7));
    }

    private static void pay() {
        HotMetalShop shop = Shops.with("d", 2, 12);
        Shops.wear(shop, 6);
        Check.same("6 good ones", 72, shop.ems());
        Shops.wear(shop, 1);
        Check.same("a hair line", 72, shop.ems());
        shop.setHeat(200);
        shop.tick(20);
        Shops.wear(shop, 1);
        Check.same("a hair line, and cold", 72, shop.ems());
        shop.mend(0);
        shop.mend(1);
        Shops.wear(shop, 1);
        Check.same("cold", 72, shop.ems());
        Check.number("6 of 9", 6.0f / 9.0f, shop.goodShare());
        shop.setHeat(280);
        shop.tick(40);
        shop.setMeasure(16);
        Shops.wear(shop, 1);
        Check.same("a good one of 16", 88, shop.ems());
        Check.number("7 of 10", 7.0f / 10.0f, shop.goodShare());
    }

    private static void colderAndWorn() {
        HotMetalShop shop = Shops.with("d", 3, 12);
        Shops.line(shop, "d d");
        shop.send();
        Check.same("with a slug", 275, shop.heat());
        Check.same("worn", 1, shop.wearOf(0));
        Check.same("worn", 1, shop.wearOf(1));
        Check.same("not in the line", 0, shop.wearOf(2));
        shop.setHeat(350);
        shop.tick(20);
        Check.same("hot", 315, shop.heat());
        Shops.line(shop, "d d");
        shop.send();
        Check.same("without a slug", 310, shop.heat());
        Check.same("worn", 1, shop.wearOf(2));
        Check.same("worn twice", 2, shop.wearOf(0));
    }

    private static void homeByPlaces() {
        HotMetalShop shop = Shops.with("a", 6, 12);
        Shops.line(shop, " a aa ");
        shop.tick(3);
        shop.send();
        shop.tick(4);
        Check.text("4 later", "rrrmmm", Shops.places(shop, 6));
        shop.tick(1);
        Check.text("5 later", "mrrmmm", Shops.places(shop, 6));
        shop.tick(1);
        Check.text("6 later", "mmrmmm", Shops.places(shop, 6));
        shop.tick(1);
        Check.text("7 later", "mmmmmm", Shops.places(shop, 6));
        shop.setHeat(350);
        shop.tick(20);
        Shops.line(shop, "aaa ");
        Check.same("squirts", -1, shop.send());
        shop.tick(6);
        Check.text("6 later, without a slug", "mmmmmr", Shops.places(shop, 6));
        shop.tick(1);
        Check.text("7 later, without a slug", "mmmmmm", Shops.places(shop, 6));
    }

    private static void emptyThen() {
        HotMetalShop shop = Shops.with("d", 4, 12);
        Shops.line(shop, "d d");
        shop.send();
        Check.same("signs", 0, shop.signs());
        Check.same("wanting", 12, shop.wanting());
        Check.refused(shop, "no sign", Shops.INDEX, () -> shop.signAt(0));
        Check.same("a new measure", 12, shop.setMeasure(14));
        shop.setHeat(350);
        shop.tick(20);
        Shops.line(shop, "d d");
        Check.same("squirts", -1, shop.send());
        Check.same("signs", 0, shop.signs());
    }
}
