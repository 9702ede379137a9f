/** The document's terms "Proofs" and "Pages". */
final class ProofTerms {
    private static final String READING = "Terms: A slug reads as the matrices that stood in its line";
    private static final String MARK = "Terms: A mark tells which letter should be at a place of a slug of a paragraph";
    private static final String WORDS = "Terms: To correct a paragraph takes the words of its lines, as they read";
    private static final String MELTING = "Terms: Old slugs that do not stay are melted, behind all this";
    private static final String STOPPING = "Terms: If it stops, the paragraph ends there";
    private static final String PAGE = "Terms: Slugs, each 3 high, can be locked in a page";

    private ProofTerms() {
    }

    static void run() {
        Check.test(READING + " - with a blank for each wedge", ProofTerms::reading);
        Check.test(READING + " - also what is astray", ProofTerms::readingOfAstray);
        Check.test(MARK + " - where a letter is", ProofTerms::markOfEachPlace);
        Check.test(MARK + " - be it the one that stands there", ProofTerms::markOfSameLetter);
        Check.test(MARK + " - in place of an earlier mark there", ProofTerms::latestMark);
        Check.test(MARK + " - an earlier mark is taken back only by another one", ProofTerms::markTakenBack);
        Check.test(WORDS + " - with what is marked", ProofTerms::oneLine);
        Check.test(WORDS + " - not as they were typed", ProofTerms::misprint);
        Check.test(WORDS + " - goes on from the first marked line", ProofTerms::fromFirstMarkedLine);
        Check.test(WORDS + " - the last line alone", ProofTerms::lastLine);
        Check.test(WORDS + " - runs over to the end", ProofTerms::runsOver);
        Check.test(WORDS + " - runs over until an old line's first word is due", ProofTerms::runsOverToOldLine);
        Check.test(WORDS + " - by its place among all words, not by the word", ProofTerms::sameWordElsewhere);
        Check.test(WORDS + " - an old line stays between two marked ones", ProofTerms::staysBetween);
        Check.test(WORDS + " - a marked line does not stay, though it is due", ProofTerms::markedDoesNotStay);
        Check.test(WORDS + " - from this word on, as in composing", ProofTerms::asInComposing);
        Check.test(WORDS + " - with the present measure", ProofTerms::presentMeasure);
        Check.test(WORDS + " - ticks go by", ProofTerms::ticks);
        Check.test(WORDS + " - nothing of what was not cast before", ProofTerms::behindEarlierStop);
        Check.test(WORDS + " - the copy and other paragraphs are left alone", ProofTerms::othersAreLeft);
        Check.test(MELTING + " - metal is lacking until then", ProofTerms::meltedBehind);
        Check.test(MELTING + " - just those that do not stay", ProofTerms::meltedAlone);
        Check.test(MELTING + " - also if it stops", ProofTerms::meltedBehindStop);
        Check.test("Terms: Marks are gone then", ProofTerms::marksAreGone);
        Check.test("Terms: Marks are gone then - those of other paragraphs are not", ProofTerms::otherMarksAreKept);
        Check.test(STOPPING + " - behind what stays ahead", ProofTerms::endsThere);
        Check.test(STOPPING + " - at its first line", ProofTerms::endsAtOnce);
        Check.test(STOPPING + " - an old line behind it does not stay", ProofTerms::nothingBehindStays);
        Check.test(STOPPING + " - by each cause", ProofTerms::endsByEachCause);
        Check.test(PAGE + " - leads of 0 to 2", ProofTerms::leads);
        Check.test(PAGE + " - shared as what is wanting among wedges", ProofTerms::leadsShared);
        Check.test(PAGE + " - of two slugs, and of all", ProofTerms::fewAndAllSlugs);
    }

    private static void seen(HotMetalShop shop, String when, String lines, String slugs) {
        Check.text(when + ": lines", lines, Shops.paragraph(shop, 0));
        Check.text(when + ": slugs", slugs, Shops.slugs(shop, 0));
        Check.yes(when + ": isSound", shop.isSound());
    }

    private static void reading() {
        HotMetalShop shop = Shops.with("abd", 4, 12);
        Shops.line(shop, "bd a");
        shop.tick(1);
        shop.send();
        Check.text("by the ticks", "d ab", Shops.slug(shop, 0));
        Shops.compose(shop, "d b");
        Check.text("composed", "d b", Shops.slug(shop, 1));
        shop.mark(1, 0, 'a');
        Check.text("marks are not read", "d b", Shops.slug(shop, 1));
        shop.melt(0);
        Check.text("melted", "d ab", Shops.slug(shop, 0));
    }

    private static void readingOfAstray() {
        HotMetalShop shop = Shops.astray();
        Shops.compose(shop, "e e");
        Check.text("of the matrices, not of the keys", "d d", Shops.slug(shop, 9));
    }

    private static void markOfEachPlace() {
        HotMetalShop shop = Shops.letters(12);
        Shops.compose(shop, "a bc");
        Check.yes("the first place", shop.mark(0, 0, 'b'));
        Check.refused(shop, "a blank", Shops.INDEX, () -> shop.mark(0, 1, 'b'));
        Check.yes("behind the blank", shop.mark(0, 2, 'a'));
        Check.yes("the last place", shop.mark(0, 3, 'a'));
        Check.refused(shop, "behind the last place", Shops.INDEX, () -> shop.mark(0, 4, 'b'));
        shop.correct(0);
        seen(shop, "corrected", "b aa|", "1");
    }

    private static void markOfSameLetter() {
        HotMetalShop shop = Shops.letters(12);
        Shops.compose(shop, "d d a");
        Check.no("it stands there", shop.mark(1, 0, 'a'));
        Check.same("cast anew", 1, shop.correct(0));
        seen(shop, "corrected", "d d|a|", "0 2");
        Check.same("by the second of a", 1, shop.wearOf(1));
    }

    private static void latestMark() {
        HotMetalShop shop = Shops.letters(12);
        Shops.compose(shop, "a b");
        shop.mark(0, 0, 'c');
        shop.mark(0, 2, 'd');
        shop.mark(0, 0, 'e');
        shop.correct(0);
        seen(shop, "corrected", "e d|", "1");
    }

    private static void markTakenBack() {
        HotMetalShop shop = Shops.letters(12);
        Shops.compose(shop, "a b");
        shop.mark(0, 0, 'c');
        Check.no("it stands there", shop.mark(0, 0, 'a'));
        Check.same("it is marked nevertheless", 1, shop.correct(0));
        seen(shop, "corrected", "a b|", "1");
    }

    private static void oneLine() {
        HotMetalShop shop = Shops.letters(12);
        Shops.compose(shop, "d d d d a");
        seen(shop, "composed", "d d|d d|a|", "0 1 2");
        shop.mark(1, 2, 'c');
        Check.same("cast anew", 1, shop.correct(0));
        seen(shop, "corrected", "d d|d c|a|", "0 3 2");
        Check.same("it is spread", 3, shop.spaceAt(3, 1));
        Check.sign("cause", '-', shop.causeOf(0));
        Check.same("paid anew", 48, shop.ems());
    }

    private static void misprint() {
        HotMetalShop shop = Shops.astray();
        Shops.compose(shop, "e e");
        seen(shop, "composed", "d d|", "9");
        shop.addMatrices('d', 2);
        shop.addMatrices('e', 2);
        Check.no("d stands there", shop.mark(9, 0, 'd'));
        Check.same("cast anew", 1, shop.correct(0));
        seen(shop, "corrected", "d d|", "10");
        Check.same("by keys of d", 1, shop.wearOf(2));
        Check.same("not by keys of e", 0, shop.wearOf(4));
    }

    private static void fromFirstMarkedLine() {
        HotMetalShop shop = Shops.letters(12);
        Shops.compose(shop, "d d d d h h a");
        seen(shop, "composed", "d d|d d|h h|a|", "0 1 2 3");
        shop.mark(2, 0, 'd');
        Check.same("cast anew", 1, shop.correct(0));
        seen(shop, "corrected", "d d|d d|d h|a|", "0 1 4 3");
    }

    private static void lastLine() {
        HotMetalShop shop = Shops.letters(12);
        Shops.compose(shop, "d d a");
        shop.mark(1, 0, 'd');
        Check.same("cast anew", 1, shop.correct(0));
        seen(shop, "corrected", "d d|d|", "0 2");
    }

    private static void runsOver() {
        HotMetalShop shop = Shops.letters(12);
        Shops.compose(shop, "b b b b b");
        seen(shop, "composed", "b b|b b|b|", "0 1 2");
        shop.tick(20);
        shop.mark(0, 0, 'a');
        Check.same("cast anew", 2, shop.correct(0));
        seen(shop, "corrected", "a b b|b b|", "3 4");
        Check.same("the last line's wedge", 2, shop.spaceAt(4, 1));
    }

    private static void runsOverToOldLine() {
        HotMetalShop shop = Shops.with("ab", 12, 12);
        Shops.compose(shop, "b b b b b b b b b");
        seen(shop, "composed", "b b|b b|b b|b b|b|", "0 1 2 3 4");
        shop.tick(20);
        shop.mark(0, 0, 'a');
        shop.mark(1, 2, 'a');
        Check.same("cast anew", 2, shop.correct(0));
        // the line of the slug 2 begins with the fifth word, which is never due; that of 3 with the seventh
        seen(shop, "corrected", "a b b|a b b|b b|b|", "5 6 3 4");
        Check.no("the line between is melted", shop.isThere(2));
    }

    private static void sameWordElsewhere() {
        HotMetalShop shop = Shops.with("ab", 12, 12);
        Shops.compose(shop, "b b b b b");
        shop.tick(20);
        shop.mark(0, 2, 'a');
        // b a b takes a word of the second line; the fourth word, b, is due, and no old line begins with that one
        Check.same("cast anew", 2, shop.correct(0));
        seen(shop, "corrected", "b a b|b b|", "3 4");
    }

    private static void staysBetween() {
        HotMetalShop shop = Shops.letters(12);
        Shops.compose(shop, "d d d d d d a");
        shop.tick(20);
        shop.mark(0, 0, 'd');
        shop.mark(2, 2, 'h');
        Check.same("cast anew", 2, shop.correct(0));
        seen(shop, "corrected", "d d|d d|d h|a|", "4 1 5 3");
    }

    private static void markedDoesNotStay() {
        HotMetalShop shop = Shops.letters(12);
        Shops.compose(shop, "d d d d a");
        shop.tick(20);
        shop.mark(0, 0, 'd');
        shop.mark(1, 0, 'd');
        Check.same("cast anew", 2, shop.correct(0));
        seen(shop, "corrected", "d d|d d|a|", "3 4 2");
    }

    private static void asInComposing() {
        HotMetalShop shop = Shops.letters(12);
        Shops.compose(shop, "d d d d");
        shop.tick(20);
        shop.mark(0, 2, 'a');
        // d a is 9, and d does not fit behind it: a wedge of 5
        Check.same("cast anew", 1, shop.correct(0));
        seen(shop, "corrected", "d a|d d|", "2 1");
        Check.same("it is spread", 5, shop.spaceAt(2, 1));
        Check.same("wear", 1, shop.wearOf(0));
    }

    private static void presentMeasure() {
        HotMetalShop shop = Shops.letters(12);
        Shops.compose(shop, "d d d d a");
        shop.setMeasure(30);
        shop.mark(1, 0, 'h');
        Check.same("cast anew", 1, shop.correct(0));
        seen(shop, "corrected", "d d|h d a|", "0 3");
        Check.same("the one that stays has its metal", 42, 300 - shop.feed(0, 0, 0));
    }

    private static void ticks() {
        HotMetalShop shop = Shops.with("bc", 1, 12);
        Shops.compose(shop, "b");
        Check.same("b fell", 1, shop.now());
        shop.mark(0, 0, 'c');
        shop.correct(0);
        Check.same("c fell", 3, shop.now());
        shop.tick(4);
        Check.text("c runs until 8", "mr", Shops.places(shop, 2));
        shop.tick(1);
        Check.text("c is home", "mm", Shops.places(shop, 2));
    }

    private static void behindEarlierStop() {
        HotMetalShop shop = Shops.with("bc", 4, 12);
        Shops.compose(shop, "b b b b b");
        Check.sign("no fifth b", 'e', shop.causeOf(0));
        seen(shop, "composed", "b b|b b|", "0 1");
        shop.tick(20);
        shop.mark(1, 2, 'b');
        Check.same("cast anew", 1, shop.correct(0));
        Check.sign("cause", '-', shop.causeOf(0));
        seen(shop, "corrected", "b b|b b|", "0 2");
        Check.same("it was not the last line", 6, shop.spaceAt(1, 1));
        Check.same("it is the last line", 2, shop.spaceAt(2, 1));
    }

    private static void othersAreLeft() {
        HotMetalShop shop = Shops.letters(12);
        Shops.compose(shop, "d a");
        Shops.compose(shop, "c a");
        Shops.type(shop, "ab ");
        shop.mark(0, 0, 'a');
        Check.same("cast anew", 1, shop.correct(0));
        seen(shop, "corrected", "a a|", "2");
        Check.text("the other one", "c a|", Shops.paragraph(shop, 1));
        Check.text("the other one's slug", "1", Shops.slugs(shop, 1));
        Check.same("the copy goes on", 4, shop.type('c'));
        shop.compose();
        Check.text("the copy", "ab c|", Shops.paragraph(shop, 2));
    }

    private static void meltedBehind() {
        HotMetalShop shop = new HotMetalShop();
        shop.addMatrices('d', 6);
        shop.setMeasure(12);
        shop.feed(12, 0, 24);
        Shops.compose(shop, "d d d d");
        shop.tick(20);
        // 12 * 12 / 36 is 4 of tin and 8 of lead, for each line
        Check.text("pot", "4 0 8", Shops.metal(shop, 'p'));
        shop.mark(0, 0, 'd');
        shop.mark(1, 0, 'd');
        Check.same("metal for one", 1, shop.correct(0));
        Check.sign("no metal for another one", 'm', shop.causeOf(0));
        seen(shop, "corrected", "d d|", "2");
        Check.text("pot", "8 0 16", Shops.metal(shop, 'p'));
        Check.text("slugs", "4 0 8", Shops.metal(shop, 's'));
    }

    private static void meltedAlone() {
        HotMetalShop shop = Shops.letters(12);
        Shops.line(shop, "dda");
        shop.send();
        Shops.compose(shop, "d d a");
        shop.mark(1, 0, 'd');
        shop.correct(0);
        seen(shop, "corrected", "d d|a|", "3 2");
        Check.yes("in no paragraph", shop.isThere(0));
        Check.no("cast anew", shop.isThere(1));
        Check.yes("stays", shop.isThere(2));
        Check.yes("new", shop.isThere(3));
        // 4 times 1 of tin, 1 of antimony, 10 of lead, and one of them came back
        Check.text("slugs", "3 3 30", Shops.metal(shop, 's'));
        Check.text("pot", "27 27 210", Shops.metal(shop, 'p'));
        Check.refused(shop, "melted", Shops.ELEMENT, () -> shop.melt(1));
        Check.refused(shop, "in a paragraph", Shops.UNSUPPORTED, () -> shop.melt(3));
    }

    private static void meltedBehindStop() {
        HotMetalShop shop = Shops.letters(12);
        Shops.compose(shop, "d d d d a");
        shop.mark(1, 0, 'b');
        shop.mark(1, 2, 'a');
        // b a a is 11, and the last line
        Check.same("cast anew", 1, shop.correct(0));
        shop.mark(3, 0, 'd');
        shop.mark(3, 2, 'd');
        shop.setHeat(350);
        shop.tick(30);
        Check.same("it squirts", 0, shop.correct(0));
        seen(shop, "stopped", "d d|", "0");
        Check.no("melted", shop.isThere(3));
        Check.same("in slugs", 10, shop.metal('l', 's'));
        Check.same("on the floor", 10, shop.metal('l', 'f'));
    }

    private static void marksAreGone() {
        HotMetalShop shop = Shops.letters(12);
        Shops.compose(shop, "d d a");
        shop.mark(0, 0, 'd');
        shop.mark(1, 0, 'a');
        Check.same("cast anew", 2, shop.correct(0));
        Check.refused(shop, "no mark", Shops.ELEMENT, () -> shop.correct(0));
        shop.mark(3, 0, 'b');
        Check.same("just the new mark", 1, shop.correct(0));
        seen(shop, "corrected", "d d|b|", "2 4");
    }

    private static void otherMarksAreKept() {
        HotMetalShop shop = Shops.letters(12);
        Shops.compose(shop, "d");
        Shops.compose(shop, "a");
        shop.mark(0, 0, 'b');
        shop.mark(1, 0, 'c');
        shop.correct(0);
        Check.refused(shop, "no mark", Shops.ELEMENT, () -> shop.correct(0));
        Check.same("the other mark", 1, shop.correct(1));
        Check.text("corrected", "c|", Shops.paragraph(shop, 1));
    }

    private static void endsThere() {
        HotMetalShop shop = Shops.letters(12);
        Shops.compose(shop, "d d d d d d");
        shop.mark(1, 0, 'a');
        shop.mark(1, 2, 'a');
        // a a want 8 of one wedge, and d does not fit behind them
        Check.same("cast anew", 0, shop.correct(0));
        Check.sign("cause", 'l', shop.causeOf(0));
        seen(shop, "stopped", "d d|", "0");
        Check.refused(shop, "no second line", Shops.INDEX, () -> shop.slugAt(0, 1));
        shop.tick(20);
        shop.mark(0, 2, 'a');
        Check.same("cast anew", 1, shop.correct(0));
        Check.sign("cause", '-', shop.causeOf(0));
        seen(shop, "corrected", "d a|", "3");
    }

    private static void endsAtOnce() {
        HotMetalShop shop = Shops.with("ab", 12, 12);
        Shops.compose(shop, "aaaaaa aa");
        shop.mark(0, 0, 'b');
        Check.same("cast anew", 0, shop.correct(0));
        Check.sign("13 wide", 'w', shop.causeOf(0));
        seen(shop, "stopped", "", "");
        Check.no("melted", shop.isThere(0));
        Check.no("melted, though not marked", shop.isThere(1));
        Check.refused(shop, "no mark", Shops.ELEMENT, () -> shop.correct(0));
    }

    private static void nothingBehindStays() {
        HotMetalShop shop = Shops.with("d", 7, 12);
        Shops.compose(shop, "d d d d d d");
        seen(shop, "composed", "d d|d d|d d|", "0 1 2");
        shop.mark(0, 0, 'd');
        // one d is left: the line stops, and those behind it could have stayed
        Check.same("cast anew", 0, shop.correct(0));
        Check.sign("cause", 'e', shop.causeOf(0));
        seen(shop, "stopped", "", "");
        Check.no("melted", shop.isThere(1));
        Check.no("melted", shop.isThere(2));
        Check.text("all metal is back", "30 30 240", Shops.metal(shop, 'p'));
    }

    private static void endsByEachCause() {
        HotMetalShop empty = Shops.with("a", 2, 12);
        Shops.compose(empty, "a");
        empty.mark(0, 0, 'c');
        Check.same("cast anew", 0, empty.correct(0));
        Check.sign("no c", 'e', empty.causeOf(0));
        HotMetalShop wide = Shops.astray();
        wide.addMatrices('a', 3);
        Shops.compose(wide, "a a a");
        wide.tick(20);
        wide.mark(9, 0, 'e');
        wide.mark(9, 2, 'e');
        // d and d come from e: 12 with a, and no room for wedges
        Check.same("cast anew", 0, wide.correct(0));
        Check.sign("too wide", 'f', wide.causeOf(0));
        HotMetalShop hot = Shops.letters(12);
        Shops.compose(hot, "a");
        hot.mark(0, 0, 'a');
        hot.setHeat(350);
        hot.tick(30);
        Check.same("cast anew", 0, hot.correct(0));
        Check.sign("squirts", 'q', hot.causeOf(0));
        seen(hot, "stopped", "", "");
    }

    private static void leads() {
        HotMetalShop shop = Shops.withSlugs(4);
        Check.refused(shop, "11", Shops.ELEMENT, () -> shop.lead(0, 4, 11, 0));
        Check.same("12", 0, shop.lead(0, 4, 12, 0));
        Check.same("18", 2, shop.lead(0, 4, 18, 2));
        Check.refused(shop, "19", Shops.ELEMENT, () -> shop.lead(0, 4, 19, 0));
    }

    private static void leadsShared() {
        HotMetalShop shop = Shops.withSlugs(4);
        int[][] pages = {{0, 0, 0}, {1, 0, 0}, {1, 1, 0}, {1, 1, 1}, {2, 1, 1}, {2, 2, 1}, {2, 2, 2}};
        for (int more = 0; more < pages.length; more++) {
            for (int gap = 0; gap < 3; gap++) {
                Check.same(more + " of lead, gap " + gap, pages[more][gap], shop.lead(0, 4, 12 + more, gap));
            }
        }
    }

    private static void fewAndAllSlugs() {
        HotMetalShop shop = Shops.withSlugs(5);
        Check.same("two slugs of 6", 0, shop.lead(0, 2, 6, 0));
        Check.same("two slugs of 8", 2, shop.lead(3, 2, 8, 0));
        Check.same("all slugs", 1, shop.lead(0, 5, 17, 1));
        Check.same("all slugs", 0, shop.lead(0, 5, 17, 3));
        Shops.compose(shop, "a");
        Check.same("one of a paragraph", 1, shop.lead(4, 2, 7, 0));
    }
}
