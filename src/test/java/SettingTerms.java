/** The document's term "Copy". */
final class SettingTerms {
    private static final String COPY = "Terms: A copy is of words with blanks between, of at most 60 signs";
    private static final String LINES = "Terms: To compose it makes a paragraph";
    private static final String SETTING = "Terms: Each line is set by keys and wedges, sign by sign";
    private static final String LAST = "Terms: The last line is filled by quads behind it";
    private static final String STOPPING = "Terms: A line can also stop as a channel is empty";

    private SettingTerms() {
    }

    static void run() {
        Check.test(COPY, SettingTerms::copyOf60);
        Check.test(COPY + " - one blank between, and none told at the end", SettingTerms::blanks);
        Check.test(LINES + " - as many words as there can be with wedges of 2", SettingTerms::asManyWords);
        Check.test(LINES + " - a measure of one word", SettingTerms::oneWord);
        Check.test(LINES + " - stops if no word fits", SettingTerms::noWordFits);
        Check.test(LINES + " - stops if a line cannot be filled by wedges of 6", SettingTerms::tooLoose);
        Check.test(LINES + " - stops if one word that is not the last does not fill", SettingTerms::tooLooseWord);
        Check.test(LINES + " - 30 words", SettingTerms::thirtyWords);
        Check.test(SETTING + " - just the ticks that it needs", SettingTerms::ticks);
        Check.test(SETTING + " - line by line", SettingTerms::ticksOfLines);
        Check.test(SETTING + " - ticks go by ahead of a key that finds no matrix", SettingTerms::ticksAheadOfEmpty);
        Check.test(SETTING + " - what comes home meanwhile is there", SettingTerms::comesHomeMeanwhile);
        Check.test(SETTING + " - what comes home a tick later is not", SettingTerms::comesHomeTooLate);
        Check.test(SETTING + " - it is cast, cools, wears and runs as by sending", SettingTerms::castAsBySending);
        Check.test(LAST + " - with wedges of 2 each", SettingTerms::quadsWithWedgesOfTwo);
        Check.test(LAST + " - with wedges of 2 each by every measure that has room", SettingTerms::quadsByEveryMeasure);
        Check.test(LAST + " - the same words sent by hand, last or not", SettingTerms::lastOrNot);
        Check.test(LAST + " - set anew, as what is last then", SettingTerms::lastWhenSetAnew);
        Check.test(LAST + " - just without room for quads", SettingTerms::noRoomForQuads);
        Check.test(LAST + " - no room for its wedges", SettingTerms::noRoomForWedges);
        Check.test(LAST + " - no other line", SettingTerms::quadsForTheLastAlone);
        Check.test(LAST + " - quads are not told", SettingTerms::quadsAreNotTold);
        Check.test(STOPPING + " - and is run home when all is there, without wear", SettingTerms::emptyChannel);
        Check.test(STOPPING + " - at its first sign", SettingTerms::emptyAtOnce);
        Check.test(STOPPING + " - in a later line", SettingTerms::emptyInSecondLine);
        Check.test(STOPPING + " - it does not fill: too wide", SettingTerms::tooWideAsItCame);
        Check.test(STOPPING + " - it does not fill: too narrow", SettingTerms::tooNarrowAsItCame);
        Check.test(STOPPING + " - it fills as it came", SettingTerms::fillsAsItCame);
        Check.test(STOPPING + " - too little metal", SettingTerms::littleMetal);
        Check.test(STOPPING + " - too little metal, just enough", SettingTerms::justEnoughMetal);
        Check.test(STOPPING + " - what does not fill is told ahead of metal", SettingTerms::fillAheadOfMetal);
        Check.test("Terms: If the pot squirts, it stops, too", SettingTerms::squirts);
        Check.test("Terms: If the pot squirts, it stops, too - not at 300", SettingTerms::squirtsNotAt300);
        Check.test("Terms: What was the cause is told", SettingTerms::causeIsTold);
        Check.test("Terms: The paragraph has the slugs that were cast", SettingTerms::slugsOfParagraph);
        Check.test("Terms: The copy is empty behind composing", SettingTerms::emptyBehind);
    }

    /** Composes a copy on a new shop of all letters, and looks at its lines, each with a bar behind, and its cause. */
    private static HotMetalShop composed(String copy, int measure, String lines, char cause) {
        HotMetalShop shop = Shops.letters(measure);
        seen(shop, copy, lines, cause);
        return shop;
    }

    private static void seen(HotMetalShop shop, String copy, String lines, char cause) {
        int paragraph = Shops.compose(shop, copy);
        Check.text("lines of " + copy, lines, Shops.paragraph(shop, paragraph));
        Check.sign("cause of " + copy, cause, shop.causeOf(paragraph));
        Check.yes("isSound", shop.isSound());
    }

    private static void copyOf60() {
        HotMetalShop shop = Shops.letters(12);
        for (int i = 1; i <= 60; i++) {
            Check.same("length", i, shop.type(i % 2 == 0 ? ' ' : 'd'));
        }
        Check.refused(shop, "61", Shops.STATE, () -> shop.type('a'));
        // of the 30 words, 6 can be keyed: then d is empty
        Check.same("paragraph", 0, shop.compose());
        Check.text("lines", "d d|d d|d d|", Shops.paragraph(shop, 0));
        Check.sign("cause", 'e', shop.causeOf(0));
    }

    private static void blanks() {
        HotMetalShop shop = Shops.letters(12);
        Check.refused(shop, "at the beginning", Shops.UNSUPPORTED, () -> shop.type(' '));
        shop.type('d');
        shop.type(' ');
        Check.refused(shop, "two of them", Shops.UNSUPPORTED, () -> shop.type(' '));
        seen(shop, "d", "d d|", '-');
        // if the blank at the end counted, a would not be last, and be too loose
        seen(shop, "a ", "a|", '-');
    }

    private static void asManyWords() {
        composed("d d a", 12, "d d|a|", '-');
        composed("d d a", 15, "d d|a|", '-');
        composed("d d a", 16, "d d a|", '-');
        composed("b b b", 12, "b b|b|", '-');
        composed("b b b", 13, "b b b|", '-');
        composed("d d d d d", 19, "d d d|d d|", '-');
    }

    private static void oneWord() {
        composed("dda", 12, "dda|", '-');
        composed("dda a", 12, "dda|a|", '-');
        composed("a dda", 12, "", 'l');
    }

    private static void noWordFits() {
        composed("dda", 12, "dda|", '-');
        HotMetalShop shop = composed("ddb", 12, "", 'w');
        Check.same("no ticks", 0, shop.now());
        Check.text("nothing fell", "m".repeat(60), Shops.places(shop, 60));
        composed("ddb a", 12, "", 'w');
        composed("d d ddb", 12, "d d|", 'w');
        composed("d d ddb a", 12, "d d|", 'w');
    }

    private static void tooLoose() {
        // b b and d: 6 are wanting to one wedge
        composed("b b d", 12, "b b|d|", '-');
        // a b and d: 7 are wanting to one wedge
        HotMetalShop shop = composed("a b d", 12, "", 'l');
        Check.same("no ticks", 0, shop.now());
        Check.text("nothing fell", "m".repeat(60), Shops.places(shop, 60));
        // a b and a: as the last line it can be as loose as it may
        composed("a b a", 12, "a b a|", '-');
        composed("a b", 12, "a b|", '-');
        composed("d d a b d", 12, "d d|", 'l');
    }

    private static void tooLooseWord() {
        composed("dd d", 12, "", 'l');
        composed("d d dd d", 12, "d d|", 'l');
        composed("dd", 12, "dd|", '-');
        composed("dda dda", 12, "dda|dda|", '-');
    }

    private static void thirtyWords() {
        HotMetalShop shop = Shops.with("aei", 12, 60);
        StringBuilder copy = new StringBuilder();
        for (int i = 0; i < 30; i++) {
            copy.append("aei".charAt(i % 3)).append(' ');
        }
        // 15 letters of 2 and 14 wedges of 2 are 58, one word more would be 62
        Shops.compose(shop, copy.toString());
        Check.same("two lines", 2, shop.lines(0));
        Check.same("29 signs", 29, shop.lengthOf(0));
        Check.same("29 signs", 29, shop.lengthOf(1));
        Check.same("3", 3, shop.spaceAt(0, 3));
        Check.same("2", 2, shop.spaceAt(0, 5));
        Check.sign("cause", '-', shop.causeOf(0));
    }

    private static void ticks() {
        String[] copies = {"a", "b", "c", "ad", "ba", "ab", "bc", "cb", "ca", "cba", "c a", "abc", "bca", "cbc", "b b"};
        int[] ticks = {0, 1, 2, 0, 1, 1, 2, 2, 2, 2, 2, 2, 2, 3, 2};
        for (int i = 0; i < copies.length; i++) {
            HotMetalShop shop = composed(copies[i], 12, copies[i] + "|", '-');
            Check.same("ticks of " + copies[i], ticks[i], shop.now());
        }
    }

    private static void ticksOfLines() {
        HotMetalShop shop = Shops.with("bd", 4, 12);
        seen(shop, "b b b", "b b|b|", '-');
        // b in 0, comes in 1; wedge in 1; b in 1, comes in 2; the second line: b in 2, comes in 3
        Check.same("now", 3, shop.now());
        shop.tick(3);
        Check.text("in 6", "rrrmmmmm", Shops.places(shop, 8));
        shop.tick(1);
        Check.text("the first line came in 2", "mrrmmmmm", Shops.places(shop, 8));
        shop.tick(1);
        Check.text("the second line came in 3", "mmmmmmmm", Shops.places(shop, 8));
    }

    private static HotMetalShop runsUntil5(String letters) {
        HotMetalShop shop = Shops.with(letters, 1, 12);
        shop.key('a');
        shop.drop();
        shop.tick(3);
        return shop;
    }

    private static void ticksAheadOfEmpty() {
        HotMetalShop shop = runsUntil5("ab");
        // b falls until 4, so a would be keyed in 4, and comes home in 5
        seen(shop, "ba", "", 'e');
        Check.same("now", 4, shop.now());
        Check.text("a runs until 5", "rr", Shops.places(shop, 2));
        shop.tick(1);
        Check.text("a is home", "mr", Shops.places(shop, 2));
        shop.tick(4);
        Check.text("b is home 5 behind 4", "mm", Shops.places(shop, 2));
    }

    private static void comesHomeMeanwhile() {
        HotMetalShop shop = runsUntil5("ac");
        // c falls until 5, so a is keyed in 5
        seen(shop, "ca", "ca|", '-');
        Check.same("now", 5, shop.now());
    }

    private static void comesHomeTooLate() {
        HotMetalShop shop = Shops.with("ac", 1, 12);
        shop.tick(1);
        shop.key('a');
        shop.drop();
        shop.tick(2);
        // c falls until 5, and a comes home in 6
        seen(shop, "ca", "", 'e');
        Check.same("now", 5, shop.now());
    }

    private static void castAsBySending() {
        HotMetalShop shop = Shops.letters(12);
        shop.setHeat(200);
        shop.tick(15);
        Check.same("heat", 250, shop.heat());
        seen(shop, "d d a", "d d|a|", '-');
        Check.no("at 250", shop.isCold(0));
        Check.yes("at 245", shop.isCold(1));
        Check.same("colder by 5 twice", 240, shop.heat());
        Check.same("one is paid", 12, shop.ems());
        // 12 * 30 / 300 is 1.2, 12 * 29 / 288 is 1.2
        Check.text("metal", "2 2 20", Shops.metal(shop, 's'));
        Check.same("wear of the first d", 1, shop.wearOf(18));
        Check.same("wear of the third d", 0, shop.wearOf(20));
        Check.same("wear of the first a", 1, shop.wearOf(0));
        shop.tick(5);
        Check.sign("5 later", 'm', shop.placeOf(18));
        Check.sign("6 later", 'r', shop.placeOf(19));
        Check.sign("each line counts its own places", 'm', shop.placeOf(0));
    }

    private static void quadsWithWedgesOfTwo() {
        HotMetalShop shop = composed("d d d d d", 20, "d d d|d d|", '-');
        Check.same("the first wedge gets 1 more", 3, shop.spaceAt(0, 1));
        Check.same("the second one", 2, shop.spaceAt(0, 3));
        Check.same("the last line's", 2, shop.spaceAt(1, 1));
        // 14 of 16: wedges of 3 could fill it, but do not
        HotMetalShop other = composed("a d a", 16, "a d a|", '-');
        Check.same("2", 2, other.spaceAt(0, 1));
        Check.same("2", 2, other.spaceAt(0, 3));
        HotMetalShop wide = composed("a", 60, "a|", '-');
        Check.same("as much metal as the measure", 48, wide.metal('l', 's'));
        Check.same("as many ems", 60, wide.ems());
    }

    private static void spaces(HotMetalShop shop, int slug, int first, int second) {
        Check.same("the first wedge of the slug " + slug, first, shop.spaceAt(slug, 1));
        Check.same("the second wedge of the slug " + slug, second, shop.spaceAt(slug, 3));
    }

    private static void quadsByEveryMeasure() {
        // a d a has letters of 9: up to 21, wider wedges could fill the measure as well
        for (int measure = 13; measure <= 60; measure++) {
            HotMetalShop shop = composed("a d a", measure, "a d a|", '-');
            spaces(shop, 0, 2, 2);
            Check.same("as many ems", measure, shop.ems());
        }
        HotMetalShop narrow = composed("a d a", 12, "a d|a|", '-');
        Check.same("the first line's wedge fills it", 5, narrow.spaceAt(0, 1));
    }

    private static void lastOrNot() {
        HotMetalShop sent = Shops.letters(16);
        Shops.line(sent, "a d a");
        spaces(sent, sent.send(), 4, 3);
        HotMetalShop last = composed("a d a", 16, "a d a|", '-');
        spaces(last, 0, 2, 2);
        HotMetalShop notLast = composed("a d a dd", 16, "a d a|dd|", '-');
        spaces(notLast, 0, 4, 3);
    }

    private static void lastWhenSetAnew() {
        // the only d still runs when dd is due, so the paragraph ends behind its first line
        HotMetalShop shop = Shops.with("a", 2, 16);
        shop.addMatrices('d', 1);
        seen(shop, "a d a dd", "a d a|", 'e');
        spaces(shop, 0, 4, 3);
        shop.tick(10);
        Check.no("what stands there is marked", shop.mark(0, 0, 'a'));
        Check.same("lines cast anew", 1, shop.correct(0));
        Check.text("lines", "a d a|", Shops.paragraph(shop, 0));
        Check.sign("cause", '-', shop.causeOf(0));
        spaces(shop, shop.slugAt(0, 0), 2, 2);
        Check.yes("isSound", shop.isSound());
    }

    private static void noRoomForQuads() {
        HotMetalShop shop = composed("f f a", 12, "f f a|", '-');
        Check.same("2", 2, shop.spaceAt(0, 3));
        composed("dda", 12, "dda|", '-');
    }

    private static void noRoomForWedges() {
        // e holds two of d, which are 10 with no wedge, and 12 with one of 2
        HotMetalShop shop = Shops.astray();
        seen(shop, "e e", "d d|", '-');
        HotMetalShop other = Shops.astray();
        other.addMatrices('a', 1);
        seen(other, "ee a", "", 'f');
    }

    private static void quadsForTheLastAlone() {
        // d d is 12 of 13: a wedge of 3, no quads
        HotMetalShop shop = composed("d d d", 13, "d d|d|", '-');
        Check.same("3", 3, shop.spaceAt(0, 1));
        composed("d dd", 13, "", 'l');
    }

    private static void quadsAreNotTold() {
        HotMetalShop shop = composed("a b", 60, "a b|", '-');
        Check.same("signs", 3, shop.lengthOf(0));
        Check.refused(shop, "no place 3", Shops.INDEX, () -> shop.proof(0, 3));
        Check.refused(shop, "no wedge 3", Shops.INDEX, () -> shop.spaceAt(0, 3));
    }

    private static void emptyChannel() {
        HotMetalShop shop = Shops.with("b", 1, 12);
        seen(shop, "bc", "", 'e');
        Check.same("b is waited for", 1, shop.now());
        Check.same("the line is empty", 0, shop.signs());
        Check.same("no wear", 0, shop.wearOf(0));
        Check.same("not colder", 280, shop.heat());
        Check.text("no metal", "30 30 240", Shops.metal(shop, 'p'));
        shop.tick(4);
        Check.text("4 later", "r", Shops.places(shop, 1));
        shop.tick(1);
        Check.text("5 later", "m", Shops.places(shop, 1));
    }

    private static void emptyAtOnce() {
        HotMetalShop shop = Shops.with("b", 1, 12);
        seen(shop, "cb", "", 'e');
        Check.same("no ticks", 0, shop.now());
        Check.text("nothing fell", "m", Shops.places(shop, 1));
    }

    private static void emptyInSecondLine() {
        HotMetalShop shop = Shops.with("d", 3, 12);
        seen(shop, "d d d a", "d d|", 'e');
        Check.same("sent", 1, shop.wearOf(0));
        Check.same("run home", 0, shop.wearOf(2));
        Check.same("colder once", 275, shop.heat());
        shop.tick(5);
        Check.text("5 later", "mrm", Shops.places(shop, 3));
    }

    private static void tooWideAsItCame() {
        HotMetalShop shop = Shops.astray();
        shop.addMatrices('a', 1);
        int now = shop.now();
        // d, d and a are 12, and want 4 more for wedges
        seen(shop, "e e a", "", 'f');
        Check.same("e comes 1 later, twice", now + 2, shop.now());
        Check.same("no wear", 9, shop.wearOf(0));
        Check.same("no wear", 0, shop.wearOf(2));
        Check.same("the line is empty", 0, shop.signs());
        shop.tick(6);
        Check.text("6 later", "mmr", Shops.places(shop, 3));
        shop.tick(1);
        Check.text("7 later", "mmm", Shops.places(shop, 3));
    }

    /** A shop in which b holds two of a with a wear of 9, then two of b. */
    private static HotMetalShop narrowB() {
        HotMetalShop shop = new HotMetalShop();
        shop.addMatrices('a', 2);
        shop.setMeasure(12);
        shop.feed(100, 100, 500);
        for (int i = 0; i < 9; i++) {
            Shops.line(shop, "aa  ");
            shop.send();
            shop.tick(6);
        }
        shop.addMatrices('b', 2);
        return shop;
    }

    private static void tooNarrowAsItCame() {
        // a a in place of b b want 8 of one wedge
        seen(narrowB(), "b b b", "", 'f');
        // a a is the last line: quads fill it
        seen(narrowB(), "b b", "a a|", '-');
    }

    private static void fillsAsItCame() {
        HotMetalShop shop = narrowB();
        shop.setMeasure(14);
        // a a and b want 7 of two wedges
        seen(shop, "b b b b", "a a b|b|", '-');
        Check.same("4", 4, shop.spaceAt(9, 1));
        Check.same("3", 3, shop.spaceAt(9, 3));
    }

    private static HotMetalShop withLead(int lead) {
        HotMetalShop shop = new HotMetalShop();
        shop.addMatrices('d', 4);
        shop.setMeasure(12);
        shop.feed(0, 0, lead);
        return shop;
    }

    private static void littleMetal() {
        HotMetalShop shop = withLead(23);
        seen(shop, "d d d d", "d d|", 'm');
        Check.text("pot", "0 0 11", Shops.metal(shop, 'p'));
        Check.same("colder once", 275, shop.heat());
        Check.same("no wear", 0, shop.wearOf(2));
        shop.tick(5);
        Check.text("both lines run", "mrmr", Shops.places(shop, 4));
    }

    private static void justEnoughMetal() {
        HotMetalShop shop = withLead(24);
        seen(shop, "d d d d", "d d|d d|", '-');
        Check.text("pot", "0 0 0", Shops.metal(shop, 'p'));
        seen(withLead(11), "d d", "", 'm');
        seen(withLead(12), "d d", "d d|", '-');
    }

    private static void fillAheadOfMetal() {
        HotMetalShop shop = new HotMetalShop();
        shop.addMatrices('d', 2);
        shop.addMatrices('a', 1);
        shop.setMeasure(12);
        shop.feed(0, 0, 108);
        Shops.wear(shop, 9);
        // both of d are in e, and there is no metal left
        seen(shop, "ee a", "", 'f');
        shop.tick(20);
        seen(shop, "e e", "", 'm');
    }

    private static void squirts() {
        HotMetalShop shop = Shops.with("d", 4, 12);
        shop.setHeat(350);
        shop.tick(11);
        seen(shop, "d d d d", "", 'q');
        Check.same("slugs", 0, shop.slugs());
        Check.same("colder once", 297, shop.heat());
        // 1 of tin and 1 of antimony burnt in the tick 10
        Check.text("floor", "1 1 10", Shops.metal(shop, 'f'));
        Check.same("wear", 1, shop.wearOf(0));
        Check.same("not set", 0, shop.wearOf(2));
        Check.text("run home", "rrmm", Shops.places(shop, 4));
        Check.same("the line is empty", 0, shop.signs());
    }

    private static void squirtsNotAt300() {
        HotMetalShop shop = Shops.with("d", 4, 12);
        shop.setHeat(300);
        shop.tick(10);
        seen(shop, "d d d d", "d d|d d|", '-');
        HotMetalShop other = Shops.with("b", 4, 12);
        other.setHeat(350);
        other.tick(9);
        // at 298, and one tick for each b: at 302, when all is there
        seen(other, "b b b", "", 'q');
        Check.same("302 less 5", 297, other.heat());
    }

    private static void causeIsTold() {
        HotMetalShop shop = Shops.letters(12);
        seen(shop, "ddb", "", 'w');
        seen(shop, "dd d", "", 'l');
        seen(shop, "aaaa", "aaaa|", '-');
        seen(shop, "aaa", "", 'e');
        Check.sign("the first one's is kept", 'w', shop.causeOf(0));
        Check.sign("the second one's is kept", 'l', shop.causeOf(1));
    }

    private static void slugsOfParagraph() {
        HotMetalShop shop = Shops.letters(12);
        Shops.line(shop, "dda");
        shop.send();
        seen(shop, "d d a", "d d|a|", '-');
        Check.text("not the one that was sent", "1 2", Shops.slugs(shop, 0));
        seen(shop, "ddb", "", 'w');
        Check.text("none", "", Shops.slugs(shop, 1));
        seen(shop, "d d ddb", "d d|", 'w');
        Check.text("what was cast ahead of the stop", "3", Shops.slugs(shop, 2));
    }

    private static void emptyBehind() {
        HotMetalShop shop = Shops.letters(12);
        seen(shop, "a", "a|", '-');
        Check.refused(shop, "no copy", Shops.UNSUPPORTED, shop::compose);
        Check.refused(shop, "a blank at the beginning", Shops.UNSUPPORTED, () -> shop.type(' '));
        seen(shop, "ddb", "", 'w');
        Check.refused(shop, "no copy behind a stop", Shops.UNSUPPORTED, shop::compose);
        Check.same("a new one", 1, shop.type('a'));
    }
}
