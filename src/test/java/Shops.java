/** Shops made ready, and longer acts that tests share. */
final class Shops {
    static final Class<IllegalArgumentException> ARGUMENT = IllegalArgumentException.class;
    static final Class<IllegalStateException> STATE = IllegalStateException.class;
    static final Class<IndexOutOfBoundsException> INDEX = IndexOutOfBoundsException.class;
    static final Class<UnsupportedOperationException> UNSUPPORTED = UnsupportedOperationException.class;
    static final Class<java.util.NoSuchElementException> ELEMENT = java.util.NoSuchElementException.class;
    static final Class<ArithmeticException> ARITHMETIC = ArithmeticException.class;

    private Shops() {
    }

    /** A shop with some matrices of each of the letters told, and 300 of metal: 30 tin, 30 antimony, 240 lead. */
    static HotMetalShop with(String letters, int of, int measure) {
        HotMetalShop shop = new HotMetalShop();
        for (char letter : letters.toCharArray()) {
            shop.addMatrices(letter, of);
        }
        shop.feed(30, 30, 240);
        shop.setMeasure(measure);
        return shop;
    }

    /** A shop with 6 matrices of each letter. */
    static HotMetalShop letters(int measure) {
        return with("abcdefghij", 6, measure);
    }

    /** Keys letters and puts wedges, each one in its tick. */
    static void line(HotMetalShop shop, String signs) {
        for (char sign : signs.toCharArray()) {
            if (sign == ' ') {
                shop.wedge();
            } else {
                shop.key(sign);
            }
        }
    }

    static void type(HotMetalShop shop, String signs) {
        for (char sign : signs.toCharArray()) {
            shop.type(sign);
        }
    }

    static int compose(HotMetalShop shop, String copy) {
        type(shop, copy);
        return shop.compose();
    }

    static String lineOf(HotMetalShop shop) {
        StringBuilder signs = new StringBuilder();
        for (int i = 0; i < shop.signs(); i++) {
            signs.append(shop.signAt(i));
        }
        return signs.toString();
    }

    static String slug(HotMetalShop shop, int slug) {
        StringBuilder signs = new StringBuilder();
        for (int i = 0; i < shop.lengthOf(slug); i++) {
            signs.append(shop.proof(slug, i));
        }
        return signs.toString();
    }

    /** The lines of a paragraph, with a bar behind each one. */
    static String paragraph(HotMetalShop shop, int paragraph) {
        StringBuilder text = new StringBuilder();
        for (int i = 0; i < shop.lines(paragraph); i++) {
            text.append(slug(shop, shop.slugAt(paragraph, i))).append('|');
        }
        return text.toString();
    }

    /** The numbers of the slugs of a paragraph, with a blank between. */
    static String slugs(HotMetalShop shop, int paragraph) {
        StringBuilder text = new StringBuilder();
        for (int i = 0; i < shop.lines(paragraph); i++) {
            text.append(i == 0 ? "" : " ").append(shop.slugAt(paragraph, i));
        }
        return text.toString();
    }

    /** What there is of tin, antimony and lead in a place. */
    static String metal(HotMetalShop shop, char where) {
        return shop.metal('t', where) + " " + shop.metal('a', where) + " " + shop.metal('l', where);
    }

    /** Takes all matrices out of a channel, in their order, and lets them run home; their numbers. */
    static String order(HotMetalShop shop, char letter) {
        StringBuilder numbers = new StringBuilder();
        while (shop.channel(letter) > 0) {
            numbers.append(numbers.length() == 0 ? "" : " ").append(shop.key(letter));
        }
        return numbers.toString();
    }

    /** Lets ticks go by, also more than 50. */
    static void ticks(HotMetalShop shop, int ticks) {
        for (int left = ticks; left > 0; left -= 50) {
            shop.tick(Math.min(left, 50));
        }
    }

    /** Sends a line of the two matrices of d so often; at measure 12 they fill it with one wedge. */
    static void wear(HotMetalShop shop, int times) {
        for (int i = 0; i < times; i++) {
            line(shop, "d d");
            shop.send();
            shop.tick(6);
        }
    }

    /** A shop at measure 12 with just the matrices 0 and 1 of d, both with a wear of 9, so that e holds them. */
    static HotMetalShop astray() {
        HotMetalShop shop = with("d", 2, 12);
        wear(shop, 9);
        return shop;
    }

    /**
     * A shop at measure 12 in which 12 of a fill their channel, and the matrix 0 of a waits for room. The matrix 12
     * of j waits behind it. It is the tick 6.
     */
    static HotMetalShop jammed() {
        HotMetalShop shop = with("a", 12, 12);
        shop.addMatrices('j', 1);
        line(shop, "aj");
        shop.addMatrices('a', 1);
        shop.drop();
        shop.tick(6);
        return shop;
    }

    /** Cast by hand, so many slugs of "dda", each in no paragraph; the last letters are home. */
    static HotMetalShop withSlugs(int many) {
        HotMetalShop shop = with("ad", 4, 12);
        for (int i = 0; i < many; i++) {
            line(shop, "dda");
            shop.send();
            shop.tick(8);
        }
        return shop;
    }

    /** All matrices of the shop told, in the order of their numbers, by where they are: m, l or r. */
    static String places(HotMetalShop shop, int matrices) {
        StringBuilder text = new StringBuilder();
        for (int i = 0; i < matrices; i++) {
            text.append(shop.placeOf(i));
        }
        return text.toString();
    }
}
