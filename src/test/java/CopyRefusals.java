/** Promises 26 to 32: the calls about copy, paragraphs and marks that are refused, and those that are just not. */
final class CopyRefusals {
    private CopyRefusals() {
    }

    static void run() {
        Check.test("26 throws IllegalArgumentException: no such sign", CopyRefusals::typeNoSign);
        Check.test("26 throws UnsupportedOperationException: a blank at the beginning", CopyRefusals::blankAtBeginning);
        Check.test("26 throws UnsupportedOperationException: a blank behind a blank", CopyRefusals::blankBehindBlank);
        Check.test("26 throws IllegalStateException: it has 60 signs", CopyRefusals::typeIntoFullCopy);
        Check.test("27 throws UnsupportedOperationException: the copy is empty", CopyRefusals::composeNothing);
        Check.test("27 throws UnsupportedOperationException: the line is not empty", CopyRefusals::composeBesideALine);
        Check.test("27 throws IllegalStateException: there are 8 paragraphs", CopyRefusals::composeNinth);
        Check.test("27 throws IllegalStateException: 8 paragraphs, without lines", CopyRefusals::composeNinthOfEmpty);
        Check.test("27 throws IllegalStateException: the present tick is above 2000", CopyRefusals::composeTooLate);
        Check.test("28 throws IndexOutOfBoundsException: no such paragraph", () -> noParagraph(shop -> shop::causeOf));
        Check.test("29 throws IndexOutOfBoundsException: no such paragraph", () -> noParagraph(shop -> shop::lines));
        Check.test("30 throws IndexOutOfBoundsException: no such paragraph",
                () -> noParagraph(shop -> paragraph -> shop.slugAt(paragraph, 0)));
        Check.test("30 throws IndexOutOfBoundsException: no such line", CopyRefusals::noLine);
        Check.test("31 throws IndexOutOfBoundsException: no such slug", CopyRefusals::markNoSlug);
        Check.test("31 throws IndexOutOfBoundsException: no letter at this place", CopyRefusals::markNoLetterThere);
        Check.test("31 throws NoSuchElementException: it was melted", CopyRefusals::markMelted);
        Check.test("31 throws UnsupportedOperationException: it is in no paragraph", CopyRefusals::markOutside);
        Check.test("31 throws IllegalArgumentException: no such letter", CopyRefusals::markNoLetter);
        Check.test("32 throws IndexOutOfBoundsException: no such paragraph", CopyRefusals::correctNoParagraph);
        Check.test("32 throws NoSuchElementException: it has no mark", CopyRefusals::correctWithoutMark);
        Check.test("32 throws UnsupportedOperationException: the line is not empty", CopyRefusals::correctBesideALine);
        Check.test("32 throws IllegalStateException: the present tick is above 2000", CopyRefusals::correctTooLate);
    }

    private interface ParagraphCall {
        Check.NumberCall on(HotMetalShop shop);
    }

    private static void typeNoSign() {
        HotMetalShop shop = new HotMetalShop();
        for (char wrong : new char[] {'`', 'k', 'A', '-', (char) 0, (char) 31, (char) 33, (char) 160, (char) 65535}) {
            Check.refused(shop, "sign " + (int) wrong, Shops.ARGUMENT, () -> shop.type(wrong));
        }
        Check.same("the first letter", 1, shop.type('a'));
        Check.same("the last letter", 2, shop.type('j'));
        Check.same("a blank", 3, shop.type(' '));
    }

    private static void blankAtBeginning() {
        HotMetalShop shop = Shops.letters(12);
        Check.refused(shop, "of a new shop's", Shops.UNSUPPORTED, () -> shop.type(' '));
        shop.type('a');
        Check.same("behind a letter", 2, shop.type(' '));
        shop.compose();
        Check.refused(shop, "behind composing", Shops.UNSUPPORTED, () -> shop.type(' '));
    }

    private static void blankBehindBlank() {
        HotMetalShop shop = new HotMetalShop();
        Shops.type(shop, "a ");
        Check.refused(shop, "a blank", Shops.UNSUPPORTED, () -> shop.type(' '));
        Check.same("a letter", 3, shop.type('b'));
        Check.same("a blank behind it", 4, shop.type(' '));
        Check.refused(shop, "a blank", Shops.UNSUPPORTED, () -> shop.type(' '));
    }

    private static void typeIntoFullCopy() {
        HotMetalShop shop = new HotMetalShop();
        for (int i = 1; i <= 59; i++) {
            shop.type('a');
        }
        Check.same("60", 60, shop.type('a'));
        Check.refused(shop, "61", Shops.STATE, () -> shop.type('a'));
        Check.refused(shop, "a blank as 61", Shops.STATE, () -> shop.type(' '));
        shop.compose();
        Check.same("a new copy", 1, shop.type('a'));
        HotMetalShop other = new HotMetalShop();
        Shops.type(other, "a ".repeat(30));
        Check.refused(other, "behind a blank as 60", Shops.STATE, () -> other.type('a'));
    }

    private static void composeNothing() {
        HotMetalShop shop = Shops.letters(12);
        Check.refused(shop, "a new shop's", Shops.UNSUPPORTED, shop::compose);
        shop.type('a');
        Check.same("one letter", 0, shop.compose());
        Check.refused(shop, "behind composing", Shops.UNSUPPORTED, shop::compose);
    }

    private static void composeBesideALine() {
        HotMetalShop shop = Shops.letters(12);
        Shops.type(shop, "a ");
        shop.wedge();
        Check.refused(shop, "a wedge is there", Shops.UNSUPPORTED, shop::compose);
        shop.drop();
        shop.key('c');
        Check.refused(shop, "c falls", Shops.UNSUPPORTED, shop::compose);
        shop.tick(2);
        Check.refused(shop, "c is there", Shops.UNSUPPORTED, shop::compose);
        shop.drop();
        Check.same("c runs", 0, shop.compose());
        Check.text("the copy was kept", "a|", Shops.paragraph(shop, 0));
    }

    private static void composeNinth() {
        HotMetalShop shop = Shops.letters(12);
        for (int i = 0; i < 7; i++) {
            Check.same("paragraph", i, Shops.compose(shop, "a"));
            shop.tick(10);
        }
        Check.same("the eighth one", 7, Shops.compose(shop, "a"));
        Shops.type(shop, "a ");
        Check.refused(shop, "the ninth one", Shops.STATE, shop::compose);
        Check.refused(shop, "no paragraph 8", Shops.INDEX, () -> shop.causeOf(8));
        Check.same("the copy was kept", 3, shop.type('a'));
    }

    private static void composeNinthOfEmpty() {
        HotMetalShop shop = new HotMetalShop();
        for (int i = 0; i < 8; i++) {
            Check.same("paragraph", i, Shops.compose(shop, "a"));
            Check.same("lines", 0, shop.lines(i));
        }
        shop.type('a');
        Check.refused(shop, "the ninth one", Shops.STATE, shop::compose);
    }

    private static void composeTooLate() {
        HotMetalShop shop = Shops.letters(12);
        Shops.ticks(shop, 2000);
        Check.same("in 2000", 0, Shops.compose(shop, "cbc"));
        Check.same("it may end later", 2003, shop.now());
        shop.type('a');
        Check.refused(shop, "in 2003", Shops.STATE, shop::compose);
        HotMetalShop other = Shops.letters(12);
        Shops.ticks(other, 2001);
        other.type('a');
        Check.refused(other, "in 2001", Shops.STATE, other::compose);
    }

    private static void noParagraph(ParagraphCall call) {
        HotMetalShop shop = Shops.letters(12);
        Check.noNumbers(shop, Shops.INDEX, call.on(shop), 0, -1, 1);
        Shops.compose(shop, "a");
        Shops.compose(shop, "b");
        call.on(shop).of(0);
        call.on(shop).of(1);
        Check.noNumbers(shop, Shops.INDEX, call.on(shop), 2, -1, 8);
        for (int i = 2; i < 8; i++) {
            shop.tick(20);
            Shops.compose(shop, "c");
        }
        call.on(shop).of(7);
        Check.noNumbers(shop, Shops.INDEX, call.on(shop), 8, -1);
    }

    private static void noLine() {
        HotMetalShop shop = Shops.letters(12);
        Shops.compose(shop, "d d a");
        Shops.compose(shop, "ddb");
        Check.same("the first line", 0, shop.slugAt(0, 0));
        Check.same("the last line", 1, shop.slugAt(0, 1));
        Check.noNumbers(shop, Shops.INDEX, line -> shop.slugAt(0, line), 2, -1);
        Check.noNumbers(shop, Shops.INDEX, line -> shop.slugAt(1, line), 0, -1);
        shop.mark(0, 0, 'b');
        shop.mark(0, 2, 'a');
        shop.correct(0);
        Check.same("the line that is left", 2, shop.slugAt(0, 0));
        Check.noNumbers(shop, Shops.INDEX, line -> shop.slugAt(0, line), 1, -1);
    }

    private static void markNoSlug() {
        HotMetalShop shop = Shops.letters(12);
        Check.noNumbers(shop, Shops.INDEX, slug -> shop.mark(slug, 0, 'a'), 0, -1);
        Shops.compose(shop, "d d a");
        Check.yes("the first one", shop.mark(0, 0, 'b'));
        Check.yes("the last one", shop.mark(1, 0, 'b'));
        Check.noNumbers(shop, Shops.INDEX, slug -> shop.mark(slug, 0, 'a'), 2, -1);
    }

    private static void markNoLetterThere() {
        HotMetalShop shop = Shops.letters(12);
        Shops.compose(shop, "b a");
        Check.noNumbers(shop, Shops.INDEX, place -> shop.mark(0, place, 'c'), 3, -1);
        Check.refused(shop, "a blank", Shops.INDEX, () -> shop.mark(0, 1, 'c'));
        Check.refused(shop, "no mark was made", Shops.ELEMENT, () -> shop.correct(0));
        Check.yes("the first place", shop.mark(0, 0, 'c'));
        Check.yes("the last place", shop.mark(0, 2, 'c'));
    }

    private static void markMelted() {
        HotMetalShop shop = Shops.letters(12);
        Shops.line(shop, "dda");
        shop.send();
        shop.melt(0);
        Check.refused(shop, "by melting", Shops.ELEMENT, () -> shop.mark(0, 0, 'a'));
        Shops.compose(shop, "b");
        shop.mark(1, 0, 'c');
        shop.correct(0);
        Check.refused(shop, "by correcting", Shops.ELEMENT, () -> shop.mark(1, 0, 'a'));
        Check.yes("the new one", shop.mark(2, 0, 'a'));
    }

    private static void markOutside() {
        HotMetalShop shop = Shops.letters(12);
        Shops.line(shop, "dda");
        shop.send();
        Check.refused(shop, "sent by hand", Shops.UNSUPPORTED, () -> shop.mark(0, 0, 'a'));
        Shops.compose(shop, "b");
        Check.refused(shop, "beside a paragraph", Shops.UNSUPPORTED, () -> shop.mark(0, 0, 'a'));
        Check.yes("in a paragraph", shop.mark(1, 0, 'a'));
    }

    private static void markNoLetter() {
        HotMetalShop shop = Shops.letters(12);
        Shops.compose(shop, "e");
        Check.noLetters(shop, letter -> shop.mark(0, 0, letter));
        Check.refused(shop, "no mark was made", Shops.ELEMENT, () -> shop.correct(0));
        Check.yes("the first letter", shop.mark(0, 0, 'a'));
        Check.noLetters(shop, letter -> shop.mark(0, 0, letter));
        Check.yes("the last letter", shop.mark(0, 0, 'j'));
    }

    private static void correctNoParagraph() {
        HotMetalShop shop = Shops.letters(12);
        Check.noNumbers(shop, Shops.INDEX, shop::correct, 0, -1);
        Shops.compose(shop, "a");
        Shops.compose(shop, "b");
        shop.mark(0, 0, 'c');
        shop.mark(1, 0, 'c');
        Check.noNumbers(shop, Shops.INDEX, shop::correct, 2, -1, 8);
        Check.same("the first one", 1, shop.correct(0));
        Check.same("the last one", 1, shop.correct(1));
    }

    private static void correctWithoutMark() {
        HotMetalShop shop = Shops.letters(12);
        Shops.compose(shop, "d d a");
        Shops.compose(shop, "b");
        Shops.compose(shop, "ddb");
        Check.refused(shop, "none at all", Shops.ELEMENT, () -> shop.correct(0));
        shop.mark(2, 0, 'b');
        Check.refused(shop, "just another paragraph's", Shops.ELEMENT, () -> shop.correct(0));
        Check.refused(shop, "a paragraph without lines", Shops.ELEMENT, () -> shop.correct(2));
        shop.mark(1, 0, 'a');
        Check.same("a mark in its last line", 1, shop.correct(0));
        Check.refused(shop, "marks are gone", Shops.ELEMENT, () -> shop.correct(0));
    }

    private static void correctBesideALine() {
        HotMetalShop shop = Shops.letters(12);
        Shops.compose(shop, "d d a");
        shop.mark(0, 0, 'b');
        shop.wedge();
        Check.refused(shop, "a wedge is there", Shops.UNSUPPORTED, () -> shop.correct(0));
        shop.drop();
        shop.key('c');
        Check.refused(shop, "c falls", Shops.UNSUPPORTED, () -> shop.correct(0));
        shop.tick(2);
        Check.refused(shop, "c is there", Shops.UNSUPPORTED, () -> shop.correct(0));
        shop.drop();
        Check.same("c runs", 1, shop.correct(0));
        Check.text("the mark was kept", "b d|a|", Shops.paragraph(shop, 0));
    }

    private static void correctTooLate() {
        HotMetalShop shop = Shops.letters(12);
        Shops.compose(shop, "a");
        Shops.ticks(shop, 2000);
        shop.mark(0, 0, 'b');
        Check.same("in 2000", 1, shop.correct(0));
        Check.same("it may end later", 2001, shop.now());
        shop.mark(1, 0, 'a');
        Check.refused(shop, "in 2001", Shops.STATE, () -> shop.correct(0));
        Check.yes("nothing was melted", shop.isThere(1));
    }
}
