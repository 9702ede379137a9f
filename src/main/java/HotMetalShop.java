import java.util.ArrayList;
import java.util.NoSuchElementException;

/**
 * A shop of hot metal, as ../shared/DOC.md tells it: matrices, a line, a pot, copy, proofs, pages and pay.
 * All that the shop knows stands in the classes at the end of this file; the methods ahead of them
 * look at what a call asks, throw what the document names, and then change it.
 */
public final class HotMetalShop {
    private static final int NONE = -1;
    private static final char BLANK = ' ';
    private static final char FIRST_LETTER = 'a';
    private static final int LETTERS = 10;
    private static final int LEAST_WIDTH = 2;
    private static final int WIDTHS = 4;
    private static final int DELAYS = 3;

    private static final int MOST_MATRICES = 60;
    private static final int CHANNEL_ROOM = 12;
    private static final int HAIR_LINE_WEAR = 6;
    private static final int ASTRAY_WEAR = 9;
    private static final int HOME_TICKS = 5;
    private static final char IN_CHANNEL = 'm';
    private static final char IN_LINE = 'l';
    private static final char RUNNING = 'r';

    private static final int MOST_SIGNS = 30;
    private static final int FIRST_MEASURE = 30;
    private static final int LEAST_MEASURE = 12;
    private static final int MOST_MEASURE = 60;
    private static final int LEAST_SPACE = 2;
    private static final int MOST_SPACE = 6;

    private static final int MOST_TICKS = 50;
    private static final int LAST_TICK = 3000;
    private static final int LAST_TICK_TO_SET = 2000;

    private static final String PARTS = "tal";
    private static final int PART_COUNT = 3;
    private static final int TIN = 0;
    private static final int ANTIMONY = 1;
    private static final int LEAD = 2;
    private static final String PLACES = "psfd";
    private static final int PLACE_COUNT = 4;
    private static final int POT = 0;
    private static final int SLUGS = 1;
    private static final int FLOOR = 2;
    private static final int DROSS = 3;
    private static final int MOST_FEED = 500;
    private static final int MOST_METAL = 3000;

    private static final int FIRST_HEAT = 280;
    private static final int LEAST_HEAT = 200;
    private static final int MOST_HEAT = 350;
    private static final int SQUIRTS_ABOVE = 300;
    private static final int COLD_BELOW = 250;
    private static final int BURNS_ABOVE = 280;
    private static final int BURNING_TICKS = 10;
    private static final int HEAT_STEP = 2;
    private static final int CAST_COOLS = 5;

    private static final int MOST_COPY = 60;
    private static final int MOST_PARAGRAPHS = 8;
    // Words have a blank between them, so a copy has half as many words as signs, and a line has one at the least.
    private static final int MOST_LINES = MOST_COPY / 2;
    private static final char GOES_ON = '-';
    private static final char NO_WORD_FITS = 'w';
    private static final char TOO_LOOSE = 'l';
    private static final char EMPTY_CHANNEL = 'e';
    private static final char DOES_NOT_FILL = 'f';
    private static final char LITTLE_METAL = 'm';
    private static final char SQUIRTED = 'q';

    private static final int LEAST_PAGE = 2;
    private static final int SLUG_HEIGHT = 3;
    private static final int MOST_LEAD = 2;

    private final Magazine magazine = new Magazine();
    private final Line line = new Line();
    private final Metal stock = new Metal();
    private final Text copy = new Text();
    // Correcting must leave a copy alone that is still being typed, so what a paragraph should read has its own text.
    private final Text revised = new Text();
    private final ArrayList<Slug> cast = new ArrayList<>();
    private final ArrayList<Paragraph> paragraphs = new ArrayList<>();
    private int present;
    private int good;
    private long paid;

    public HotMetalShop() {
    }

    // ---- matrices

    public int addMatrices(char letter, int many) throws IllegalArgumentException, IllegalStateException {
        int number = wantedLetter(letter);
        if (many < 1 || many > CHANNEL_ROOM) {
            throw new IllegalArgumentException("1 to 12 matrices can be added");
        }
        if (magazine.roomIn(number) < many || MOST_MATRICES - magazine.count < many) {
            throw new IllegalStateException("there is no room for so many matrices");
        }
        for (int i = 0; i < many; i++) {
            magazine.addOne(number);
        }
        return magazine.count;
    }

    public char letterOf(int matrix) throws IndexOutOfBoundsException {
        lookForMatrix(matrix);
        return letterNumbered(magazine.letterNumberOf(matrix));
    }

    public char placeOf(int matrix) throws IndexOutOfBoundsException {
        lookForMatrix(matrix);
        return magazine.whereIs(matrix);
    }

    public char channelOf(int matrix) throws IndexOutOfBoundsException, NoSuchElementException {
        lookForMatrix(matrix);
        int number = magazine.channelWith(matrix);
        if (number == NONE) {
            throw new NoSuchElementException("the matrix is in no channel");
        }
        return letterNumbered(number);
    }

    public int wearOf(int matrix) throws IndexOutOfBoundsException {
        lookForMatrix(matrix);
        return magazine.wearing(matrix);
    }

    public int mend(int matrix) throws IndexOutOfBoundsException, UnsupportedOperationException {
        lookForMatrix(matrix);
        if (magazine.whereIs(matrix) != IN_CHANNEL) {
            throw new UnsupportedOperationException("the matrix is in no channel");
        }
        return magazine.makeNew(matrix);
    }

    public int channel(char letter) throws IllegalArgumentException {
        return CHANNEL_ROOM - magazine.roomIn(wantedLetter(letter));
    }

    public int front(char letter) throws IllegalArgumentException, NoSuchElementException {
        int matrix = magazine.firstIn(wantedLetter(letter));
        if (matrix == NONE) {
            throw new NoSuchElementException("the channel is empty");
        }
        return matrix;
    }

    public int clear(char letter) throws IllegalArgumentException {
        return magazine.sortOut(wantedLetter(letter));
    }

    public boolean isJammed() {
        return magazine.nextDue(present) != NONE;
    }

    // ---- a line

    public int setMeasure(int measure) throws IllegalArgumentException, UnsupportedOperationException {
        if (measure < LEAST_MEASURE || measure > MOST_MEASURE) {
            throw new IllegalArgumentException("the measure is out of range");
        }
        if (line.length > 0) {
            throw new UnsupportedOperationException("the line is not empty");
        }
        int before = line.measure;
        line.measure = measure;
        return before;
    }

    public int key(char letter) throws IllegalArgumentException, UnsupportedOperationException, IllegalStateException {
        int number = wantedLetter(letter);
        lookForRoomInLine();
        if (magazine.firstIn(number) == NONE) {
            throw new IllegalStateException("the channel is empty");
        }
        return letFall(number);
    }

    public int wedge() throws UnsupportedOperationException {
        lookForRoomInLine();
        line.insert(NONE, present);
        return line.length;
    }

    public int signs() {
        return line.length;
    }

    public char signAt(int index) throws IndexOutOfBoundsException {
        if (index < 0 || index >= line.length) {
            throw new IndexOutOfBoundsException("no such sign");
        }
        return magazine.signOf(line.at(index));
    }

    public int wanting() {
        int wanted = line.measure;
        for (int i = 0; i < line.length; i++) {
            wanted -= magazine.letterWidth(line.at(i));
        }
        return wanted;
    }

    public int send() throws UnsupportedOperationException, IllegalStateException {
        if (line.length == 0 || line.latest() > present || !isFilledByWedges()) {
            throw new UnsupportedOperationException("the line cannot be sent");
        }
        if (stock.inPot() < line.measure) {
            throw new IllegalStateException("the pot has too little metal");
        }
        return castLine(false);
    }

    public int drop() throws UnsupportedOperationException {
        if (line.latest() > present) {
            throw new UnsupportedOperationException("something falls");
        }
        int had = line.length;
        runLineHome();
        return had;
    }

    // ---- time and metal

    public int tick(int ticks) throws IllegalArgumentException, IllegalStateException {
        if (ticks < 1 || ticks > MOST_TICKS) {
            throw new IllegalArgumentException("1 to 50 ticks can go by");
        }
        if (present + ticks > LAST_TICK) {
            throw new IllegalStateException("the last tick is 3000");
        }
        waitUntil(present + ticks);
        return present;
    }

    public int now() {
        return present;
    }

    public int setHeat(int heat) throws IllegalArgumentException {
        if (heat < LEAST_HEAT || heat > MOST_HEAT) {
            throw new IllegalArgumentException("the wished heat is out of range");
        }
        int before = stock.wished;
        stock.wished = heat;
        return before;
    }

    public int heat() {
        return stock.heat;
    }

    public int feed(int tin, int antimony, int lead) throws IllegalArgumentException, IllegalStateException {
        if (!canBeFed(tin) || !canBeFed(antimony) || !canBeFed(lead)) {
            throw new IllegalArgumentException("0 to 500 of each part can be fed");
        }
        if (stock.inPot() + tin + antimony + lead > MOST_METAL) {
            throw new IllegalStateException("the pot would have too much metal");
        }
        stock.takeIn(TIN, tin);
        stock.takeIn(ANTIMONY, antimony);
        stock.takeIn(LEAD, lead);
        return stock.inPot();
    }

    public int metal(char part, char where) throws IllegalArgumentException {
        int partNumber = PARTS.indexOf(part);
        int placeNumber = PLACES.indexOf(where);
        if (partNumber < 0 || placeNumber < 0) {
            throw new IllegalArgumentException("no such part or place");
        }
        return stock.amount(placeNumber, partNumber);
    }

    // ---- copy and paragraphs

    public int type(char sign) throws IllegalArgumentException, UnsupportedOperationException, IllegalStateException {
        if (sign != BLANK && !isLetter(sign)) {
            throw new IllegalArgumentException("no such sign");
        }
        if (sign == BLANK && !copy.endsWithLetter()) {
            throw new UnsupportedOperationException("a blank stands behind a letter");
        }
        if (copy.length >= MOST_COPY) {
            throw new IllegalStateException("the copy is full");
        }
        copy.append(sign);
        return copy.length;
    }

    public int compose() throws UnsupportedOperationException, IllegalStateException {
        if (copy.length == 0 || line.length > 0) {
            throw new UnsupportedOperationException("there is no copy, or the line is not empty");
        }
        if (paragraphs.size() >= MOST_PARAGRAPHS || present > LAST_TICK_TO_SET) {
            throw new IllegalStateException("there are 8 paragraphs, or it is too late");
        }
        copy.dropBlankAtEnd();
        Paragraph made = new Paragraph();
        paragraphs.add(made);
        ArrayList<Slug> noneOld = new ArrayList<>();
        setParagraph(made, copy, noneOld);
        copy.length = 0;
        return paragraphs.size() - 1;
    }

    public char causeOf(int paragraph) throws IndexOutOfBoundsException {
        return wantedParagraph(paragraph).cause;
    }

    public int lines(int paragraph) throws IndexOutOfBoundsException {
        return wantedParagraph(paragraph).rows.size();
    }

    public int slugAt(int paragraph, int line) throws IndexOutOfBoundsException {
        ArrayList<Slug> rows = wantedParagraph(paragraph).rows;
        if (line < 0 || line >= rows.size()) {
            throw new IndexOutOfBoundsException("no such line");
        }
        return rows.get(line).number;
    }

    public boolean mark(int slug, int place, char letter) throws IndexOutOfBoundsException, NoSuchElementException,
            UnsupportedOperationException, IllegalArgumentException {
        Slug marked = wantedSlug(slug);
        if (!marked.hasPlace(place) || marked.reading[place] == BLANK) {
            throw new IndexOutOfBoundsException("no letter at this place");
        }
        lookWhetherThere(marked);
        if (!marked.inParagraph) {
            throw new UnsupportedOperationException("the slug is in no paragraph");
        }
        wantedLetter(letter);
        marked.marked = true;
        marked.due[place] = letter;
        return marked.reading[place] != letter;
    }

    public int correct(int paragraph) throws IndexOutOfBoundsException, NoSuchElementException,
            UnsupportedOperationException, IllegalStateException {
        Paragraph corrected = wantedParagraph(paragraph);
        if (!corrected.hasMark()) {
            throw new NoSuchElementException("the paragraph has no mark");
        }
        if (line.length > 0) {
            throw new UnsupportedOperationException("the line is not empty");
        }
        if (present > LAST_TICK_TO_SET) {
            throw new IllegalStateException("it is too late");
        }
        int before = cast.size();
        ArrayList<Slug> old = corrected.takeRows();
        readDue(old);
        setParagraph(corrected, revised, old);
        meltLeftOver(old);
        return cast.size() - before;
    }

    // ---- slugs and pages

    public int slugs() {
        return cast.size();
    }

    public boolean isThere(int slug) throws IndexOutOfBoundsException {
        return wantedSlug(slug).there;
    }

    public int lengthOf(int slug) throws IndexOutOfBoundsException {
        return wantedSlug(slug).reading.length;
    }

    public char proof(int slug, int place) throws IndexOutOfBoundsException {
        Slug read = wantedSlug(slug);
        if (!read.hasPlace(place)) {
            throw new IndexOutOfBoundsException("no such place");
        }
        return read.reading[place];
    }

    public int spaceAt(int slug, int place) throws IndexOutOfBoundsException {
        Slug measured = wantedSlug(slug);
        if (!measured.hasPlace(place) || measured.reading[place] != BLANK) {
            throw new IndexOutOfBoundsException("no wedge at this place");
        }
        return measured.widths[place];
    }

    public boolean isCold(int slug) throws IndexOutOfBoundsException {
        return wantedSlug(slug).cold;
    }

    public boolean hasHairLine(int slug) throws IndexOutOfBoundsException {
        return wantedSlug(slug).hairLine;
    }

    public int melt(int slug) throws IndexOutOfBoundsException, NoSuchElementException, UnsupportedOperationException {
        Slug melted = wantedSlug(slug);
        lookWhetherThere(melted);
        if (melted.inParagraph) {
            throw new UnsupportedOperationException("the slug is in a paragraph");
        }
        meltDown(melted);
        return melted.measure;
    }

    public int lead(int first, int many, int height, int gap) throws IllegalArgumentException,
            IndexOutOfBoundsException, NoSuchElementException, UnsupportedOperationException {
        if (many < LEAST_PAGE) {
            throw new IllegalArgumentException("a page has 2 slugs at the least");
        }
        if (first < 0 || first >= cast.size() || many > cast.size() - first) {
            throw new IndexOutOfBoundsException("no such slug");
        }
        for (int i = 0; i < many; i++) {
            lookWhetherThere(wantedSlug(first + i));
        }
        int gaps = many - 1;
        long leads = (long) height - (long) SLUG_HEIGHT * many;
        if (leads < 0 || leads > (long) MOST_LEAD * gaps) {
            throw new NoSuchElementException("the page cannot be locked");
        }
        if (gap < 0 || gap >= gaps) {
            throw new UnsupportedOperationException("no such gap");
        }
        return share((int) leads, gaps, gap);
    }

    // ---- figures

    public long ems() {
        return paid;
    }

    public float goodShare() throws ArithmeticException {
        int all = cast.size();
        if (all == 0) {
            throw new ArithmeticException("no slug was cast");
        }
        return (float) good / (float) all;
    }

    public double meanWear() throws ArithmeticException {
        if (magazine.count == 0) {
            throw new ArithmeticException("there is no matrix");
        }
        return (double) magazine.wearOfAll() / (double) magazine.count;
    }

    public boolean isSound() {
        return matricesAreSound() && slugsAreSound() && stock.isBalanced() && slugsHoldTheirMetal();
    }

    // ---- letters and shares

    private static boolean isLetter(char sign) {
        return sign >= FIRST_LETTER && sign < FIRST_LETTER + LETTERS;
    }

    private static char letterNumbered(int number) {
        return (char) (FIRST_LETTER + number);
    }

    private static int widthOf(int number) {
        return LEAST_WIDTH + number % WIDTHS;
    }

    private static int share(int whole, int among, int index) {
        if (among <= 0) {
            return 0;
        }
        return whole / among + (index < whole % among ? 1 : 0);
    }

    private static boolean canBeFed(int amount) {
        return amount >= 0 && amount <= MOST_FEED;
    }

    // ---- what a call must find

    private static int wantedLetter(char letter) {
        if (!isLetter(letter)) {
            throw new IllegalArgumentException("no such letter");
        }
        return letter - FIRST_LETTER;
    }

    private void lookForMatrix(int matrix) {
        if (!magazine.has(matrix)) {
            throw new IndexOutOfBoundsException("no such matrix");
        }
    }

    private void lookForRoomInLine() {
        if (line.length >= MOST_SIGNS) {
            throw new UnsupportedOperationException("the line has 30 signs");
        }
    }

    private Slug wantedSlug(int number) {
        if (number < 0 || number >= cast.size()) {
            throw new IndexOutOfBoundsException("no such slug");
        }
        return cast.get(number);
    }

    private static void lookWhetherThere(Slug slug) {
        if (!slug.there) {
            throw new NoSuchElementException("the slug was melted");
        }
    }

    private Paragraph wantedParagraph(int number) {
        if (number < 0 || number >= paragraphs.size()) {
            throw new IndexOutOfBoundsException("no such paragraph");
        }
        return paragraphs.get(number);
    }

    // ---- ticks

    private void waitUntil(int tick) {
        for (int next = present + 1; next <= tick; next++) {
            present = next;
            magazine.comeHome(next);
            stock.changeHeat();
            if (next % BURNING_TICKS == 0 && stock.heat > BURNS_ABOVE) {
                stock.burn();
            }
        }
    }

    // ---- setting and casting a line

    private int letFall(int channel) {
        int matrix = magazine.takeFirst(channel);
        line.insert(matrix, present + channel % DELAYS);
        return matrix;
    }

    private boolean isFilledByWedges() {
        int wanted = wanting();
        int wedges = line.wedges();
        return wanted >= LEAST_SPACE * wedges && wanted <= MOST_SPACE * wedges;
    }

    private boolean isFilledByQuads() {
        return wanting() >= LEAST_SPACE * line.wedges();
    }

    /** Casts the line and lets it run home; the number of the slug, or NONE if the pot squirts. */
    private int castLine(boolean withQuads) {
        boolean squirts = stock.heat > SQUIRTS_ABOVE;
        int spaces = withQuads ? LEAST_SPACE * line.wedges() : wanting();
        int[] parts = stock.partsFor(line.measure);
        stock.move(parts, POT, squirts ? FLOOR : SLUGS);
        int number = squirts ? NONE : addSlug(parts, spaces, withQuads);
        stock.heat -= CAST_COOLS;
        for (int i = 0; i < line.length; i++) {
            magazine.wearOut(line.at(i));
        }
        runLineHome();
        return number;
    }

    /** Adds the slug of the line, whose wedges share the spaces. */
    private int addSlug(int[] parts, int spaces, boolean withQuads) {
        Slug slug = new Slug(cast.size(), line.measure, parts, line.matricesInOrder());
        slug.quads = withQuads;
        slug.cold = stock.heat < COLD_BELOW;
        int wedges = line.wedges();
        int wedgesBefore = 0;
        for (int i = 0; i < line.length; i++) {
            int matrix = line.at(i);
            boolean isWedge = matrix == NONE;
            int width = isWedge ? share(spaces, wedges, wedgesBefore) : magazine.letterWidth(matrix);
            slug.putSign(i, magazine.signOf(matrix), width);
            slug.hairLine = slug.hairLine || magazine.wearing(matrix) >= HAIR_LINE_WEAR;
            wedgesBefore += isWedge ? 1 : 0;
        }
        cast.add(slug);
        if (!slug.cold && !slug.hairLine) {
            good++;
            paid += line.measure;
        }
        return slug.number;
    }

    private void runLineHome() {
        int place = 0;
        for (int i = 0; i < line.length; i++) {
            int matrix = line.at(i);
            if (matrix != NONE) {
                magazine.run(matrix, present + HOME_TICKS + place);
                place++;
            }
        }
        line.length = 0;
    }

    // ---- paragraphs

    /** Sets a text, whose old lines stay where they can, and leaves in the paragraph why it stopped. */
    private void setParagraph(Paragraph paragraph, Text text, ArrayList<Slug> old) {
        char cause = GOES_ON;
        int due = 0;
        for (int turn = 0; turn < MOST_LINES && due < text.length && cause == GOES_ON; turn++) {
            Slug staying = unmarkedAt(old, due);
            if (staying != null) {
                paragraph.addRow(staying);
                due += staying.due.length + 1;
            } else {
                int end = text.lineEnd(due, line.measure);
                cause = setLine(paragraph, text, due, end);
                due = end + 1;
            }
        }
        paragraph.cause = cause;
    }

    // With single blanks between words, a word's place in the text tells its place among all words.
    private static Slug unmarkedAt(ArrayList<Slug> old, int due) {
        int begin = 0;
        for (int i = 0; i < old.size(); i++) {
            Slug slug = old.get(i);
            if (begin == due && !slug.marked) {
                return slug;
            }
            begin += slug.due.length + 1;
        }
        return null;
    }

    /** Sets the signs of a text from a place to an end as one line, and answers why that stopped, or GOES_ON. */
    private char setLine(Paragraph paragraph, Text text, int from, int end) {
        if (end <= from) {
            return NO_WORD_FITS;
        }
        boolean isLast = end >= text.length;
        if (!isLast && text.isLoose(from, end, line.measure)) {
            return TOO_LOOSE;
        }
        boolean isSet = keyAll(text, from, end);
        waitUntil(line.latest());
        boolean fills = isLast ? isFilledByQuads() : isFilledByWedges();
        char cause = causeNotToCast(isSet, fills);
        if (cause != GOES_ON) {
            runLineHome();
            return cause;
        }
        int slug = castLine(isLast);
        if (slug == NONE) {
            return SQUIRTED;
        }
        paragraph.addRow(wantedSlug(slug));
        return GOES_ON;
    }

    private boolean keyAll(Text text, int from, int end) {
        for (int i = from; i < end; i++) {
            char sign = text.at(i);
            if (sign == BLANK) {
                waitUntil(line.latest());
                line.insert(NONE, present);
            } else {
                int channel = sign - FIRST_LETTER;
                waitUntil(line.latest() - channel % DELAYS);
                if (magazine.firstIn(channel) == NONE) {
                    return false;
                }
                letFall(channel);
            }
        }
        return true;
    }

    private char causeNotToCast(boolean isSet, boolean fills) {
        if (!isSet) {
            return EMPTY_CHANNEL;
        }
        if (!fills) {
            return DOES_NOT_FILL;
        }
        return stock.inPot() < line.measure ? LITTLE_METAL : GOES_ON;
    }

    private void readDue(ArrayList<Slug> old) {
        revised.length = 0;
        for (int i = 0; i < old.size(); i++) {
            revised.appendWords(old.get(i).due);
        }
    }

    private void meltLeftOver(ArrayList<Slug> old) {
        for (int i = 0; i < old.size(); i++) {
            Slug slug = old.get(i);
            if (!slug.inParagraph) {
                meltDown(slug);
            }
        }
    }

    private void meltDown(Slug slug) {
        slug.there = false;
        stock.move(slug.parts, SLUGS, POT);
    }

    // ---- the shop's own check

    private boolean matricesAreSound() {
        for (int matrix = 0; matrix < magazine.count; matrix++) {
            int runs = magazine.whereIs(matrix) == RUNNING ? 1 : 0;
            if (magazine.timesInChannels(matrix) + line.times(matrix) + runs != 1) {
                return false;
            }
        }
        return true;
    }

    private boolean slugsAreSound() {
        for (int i = 0; i < cast.size(); i++) {
            Slug slug = cast.get(i);
            if (slug.there && !(slug.isFilled() && readsAsItsMatrices(slug))) {
                return false;
            }
        }
        return true;
    }

    private boolean readsAsItsMatrices(Slug slug) {
        for (int i = 0; i < slug.reading.length && i < slug.matrices.length; i++) {
            if (slug.reading[i] != magazine.signOf(slug.matrices[i])) {
                return false;
            }
        }
        return true;
    }

    private boolean slugsHoldTheirMetal() {
        for (int part = 0; part < PART_COUNT; part++) {
            int held = 0;
            for (int i = 0; i < cast.size(); i++) {
                held += cast.get(i).holds(part);
            }
            if (held != stock.amount(SLUGS, part)) {
                return false;
            }
        }
        return true;
    }

    /** The matrices by their numbers, and the channels from which they fall and to which they run. */
    private static final class Magazine {
        private final int[] letters = new int[MOST_MATRICES];
        private final int[] wears = new int[MOST_MATRICES];
        private final char[] places = new char[MOST_MATRICES];
        private final int[] homes = new int[MOST_MATRICES];
        private final int[] dueTicks = new int[MOST_MATRICES];
        private final int[][] rows = new int[LETTERS][CHANNEL_ROOM];
        private final int[] lengths = new int[LETTERS];
        private int count;

        boolean has(int matrix) {
            return matrix >= 0 && matrix < count;
        }

        private static boolean isChannel(int channel) {
            return channel >= 0 && channel < LETTERS;
        }

        void addOne(int letter) {
            if (count >= MOST_MATRICES || roomIn(letter) <= 0) {
                return;
            }
            letters[count] = letter;
            count++;
            putBehind(letter, count - 1);
        }

        int letterNumberOf(int matrix) {
            return has(matrix) ? letters[matrix] : 0;
        }

        /** How a matrix reads, a blank for what is none: a wedge. */
        char signOf(int matrix) {
            return has(matrix) ? letterNumbered(letters[matrix]) : BLANK;
        }

        /** The width of a matrix, 0 for a wedge: what a wedge fills is told by its line. */
        int letterWidth(int matrix) {
            return has(matrix) ? widthOf(letters[matrix]) : 0;
        }

        char whereIs(int matrix) {
            return has(matrix) ? places[matrix] : IN_CHANNEL;
        }

        int channelWith(int matrix) {
            return has(matrix) && places[matrix] == IN_CHANNEL ? homes[matrix] : NONE;
        }

        int wearing(int matrix) {
            return has(matrix) ? wears[matrix] : 0;
        }

        void wearOut(int matrix) {
            if (has(matrix)) {
                wears[matrix]++;
            }
        }

        int makeNew(int matrix) {
            int before = wearing(matrix);
            if (has(matrix)) {
                wears[matrix] = 0;
            }
            return before;
        }

        long wearOfAll() {
            long sum = 0;
            for (int matrix = 0; matrix < count; matrix++) {
                sum += wears[matrix];
            }
            return sum;
        }

        int roomIn(int channel) {
            return isChannel(channel) ? CHANNEL_ROOM - lengths[channel] : 0;
        }

        int firstIn(int channel) {
            return isChannel(channel) && lengths[channel] > 0 ? rows[channel][0] : NONE;
        }

        int takeFirst(int channel) {
            if (!isChannel(channel) || lengths[channel] <= 0) {
                return NONE;
            }
            int matrix = rows[channel][0];
            lengths[channel]--;
            System.arraycopy(rows[channel], 1, rows[channel], 0, lengths[channel]);
            if (has(matrix)) {
                places[matrix] = IN_LINE;
            }
            return matrix;
        }

        private void putBehind(int channel, int matrix) {
            if (!has(matrix) || !isChannel(channel) || lengths[channel] >= CHANNEL_ROOM) {
                return;
            }
            rows[channel][lengths[channel]] = matrix;
            lengths[channel]++;
            places[matrix] = IN_CHANNEL;
            homes[matrix] = channel;
        }

        void run(int matrix, int dueTick) {
            if (has(matrix)) {
                places[matrix] = RUNNING;
                dueTicks[matrix] = dueTick;
            }
        }

        void comeHome(int tick) {
            for (int turn = 0; turn < count; turn++) {
                int matrix = nextDue(tick);
                if (!has(matrix)) {
                    return;
                }
                int channel = wears[matrix] >= ASTRAY_WEAR ? (letters[matrix] + 1) % LETTERS : letters[matrix];
                if (roomIn(channel) <= 0) {
                    return;
                }
                putBehind(channel, matrix);
            }
        }

        /** The matrix that runs and should come ahead of the others, in this tick at the latest, or NONE. */
        int nextDue(int tick) {
            int next = NONE;
            for (int matrix = 0; matrix < count; matrix++) {
                boolean isDue = places[matrix] == RUNNING && dueTicks[matrix] <= tick;
                if (isDue && (next == NONE || dueTicks[matrix] < dueTicks[next])) {
                    next = matrix;
                }
            }
            return next;
        }

        /** Brings the matrices of other letters home, as far as there is room, and tells how many there were. */
        int sortOut(int channel) {
            if (!isChannel(channel)) {
                return 0;
            }
            int had = lengths[channel];
            int others = 0;
            // What stays is written over what was read already: it never stands further behind than before.
            lengths[channel] = 0;
            for (int i = 0; i < had; i++) {
                int matrix = rows[channel][i];
                int own = letterNumberOf(matrix);
                others += own == channel ? 0 : 1;
                putBehind(roomIn(own) > 0 ? own : channel, matrix);
            }
            return others;
        }

        int timesInChannels(int matrix) {
            int times = 0;
            for (int channel = 0; channel < LETTERS; channel++) {
                for (int i = 0; i < lengths[channel]; i++) {
                    times += rows[channel][i] == matrix ? 1 : 0;
                }
            }
            return times;
        }
    }

    /** The line, in the order in which it will stand: matrices by their numbers, wedges as NONE. */
    private static final class Line {
        private final int[] row = new int[MOST_SIGNS];
        private final int[] arrivals = new int[MOST_SIGNS];
        private int length;
        private int measure = FIRST_MEASURE;

        void insert(int matrix, int arrival) {
            if (length >= MOST_SIGNS) {
                return;
            }
            int place = length;
            // Those of the same tick were told earlier, so they are not passed.
            while (place > 0 && arrivals[place - 1] > arrival) {
                row[place] = row[place - 1];
                arrivals[place] = arrivals[place - 1];
                place--;
            }
            row[place] = matrix;
            arrivals[place] = arrival;
            length++;
        }

        int at(int index) {
            return index >= 0 && index < length ? row[index] : NONE;
        }

        /** The tick in which all is there. */
        int latest() {
            return length > 0 ? arrivals[length - 1] : 0;
        }

        int wedges() {
            return times(NONE);
        }

        int times(int matrix) {
            int times = 0;
            for (int i = 0; i < length; i++) {
                times += row[i] == matrix ? 1 : 0;
            }
            return times;
        }

        int[] matricesInOrder() {
            int[] matrices = new int[length];
            System.arraycopy(row, 0, matrices, 0, length);
            return matrices;
        }
    }

    /** The metal, by place and part, and the heat of the pot. */
    private static final class Metal {
        private final int[][] amounts = new int[PLACE_COUNT][PART_COUNT];
        private final int[] fed = new int[PART_COUNT];
        private int heat = FIRST_HEAT;
        private int wished = FIRST_HEAT;

        int inPot() {
            return amounts[POT][TIN] + amounts[POT][ANTIMONY] + amounts[POT][LEAD];
        }

        private static boolean isPlace(int place) {
            return place >= 0 && place < PLACE_COUNT;
        }

        private static boolean isPart(int part) {
            return part >= 0 && part < PART_COUNT;
        }

        int amount(int place, int part) {
            return isPlace(place) && isPart(part) ? amounts[place][part] : 0;
        }

        void takeIn(int part, int amount) {
            if (isPart(part)) {
                amounts[POT][part] += amount;
                fed[part] += amount;
            }
        }

        int[] partsFor(int measure) {
            int[] parts = new int[PART_COUNT];
            int all = inPot();
            if (all <= 0) {
                return parts;
            }
            parts[TIN] = measure * amounts[POT][TIN] / all;
            parts[ANTIMONY] = measure * amounts[POT][ANTIMONY] / all;
            int rest = measure - parts[TIN] - parts[ANTIMONY];
            parts[LEAD] = Math.min(rest, amounts[POT][LEAD]);
            rest -= parts[LEAD];
            int moreTin = Math.min(rest, amounts[POT][TIN] - parts[TIN]);
            parts[TIN] += moreTin;
            parts[ANTIMONY] += rest - moreTin;
            return parts;
        }

        void move(int[] parts, int from, int to) {
            if (!isPlace(from) || !isPlace(to)) {
                return;
            }
            for (int part = 0; part < PART_COUNT && part < parts.length; part++) {
                amounts[from][part] -= parts[part];
                amounts[to][part] += parts[part];
            }
        }

        void changeHeat() {
            heat = heat < wished ? Math.min(heat + HEAT_STEP, wished) : Math.max(heat - HEAT_STEP, wished);
        }

        /** Lead does not burn. */
        void burn() {
            for (int part = TIN; part <= ANTIMONY; part++) {
                if (amounts[POT][part] > 0) {
                    amounts[POT][part]--;
                    amounts[DROSS][part]++;
                }
            }
        }

        boolean isBalanced() {
            for (int part = 0; part < PART_COUNT; part++) {
                int sum = 0;
                for (int place = 0; place < PLACE_COUNT; place++) {
                    sum += amounts[place][part];
                }
                if (sum != fed[part]) {
                    return false;
                }
            }
            return true;
        }
    }

    /** Words with one blank between: a copy, or what a paragraph should read. */
    private static final class Text {
        private final char[] letters = new char[MOST_COPY];
        private int length;

        char at(int index) {
            return index >= 0 && index < length ? letters[index] : BLANK;
        }

        void append(char sign) {
            if (length < MOST_COPY) {
                letters[length] = sign;
                length++;
            }
        }

        void appendWords(char[] words) {
            if (length > 0) {
                append(BLANK);
            }
            for (char sign : words) {
                append(sign);
            }
        }

        boolean endsWithLetter() {
            return at(length - 1) != BLANK;
        }

        void dropBlankAtEnd() {
            if (length > 0 && !endsWithLetter()) {
                length--;
            }
        }

        /** Where a line ends that takes as many words as can be, from a word on: there itself, if no word fits. */
        int lineEnd(int from, int measure) {
            int end = from;
            int width = 0;
            for (int i = from; i < length && width <= measure; i++) {
                if (at(i) == BLANK) {
                    end = i;
                }
                width += widthOfSign(at(i), LEAST_SPACE);
            }
            return width <= measure ? length : end;
        }

        boolean isLoose(int from, int end, int measure) {
            int width = 0;
            for (int i = from; i < end; i++) {
                width += widthOfSign(at(i), MOST_SPACE);
            }
            return width < measure;
        }

        private static int widthOfSign(char sign, int space) {
            return sign == BLANK ? space : widthOf(sign - FIRST_LETTER);
        }
    }

    /** A slug, with what its line was and what it should read by its marks. */
    private static final class Slug {
        private final int number;
        private final int measure;
        private final int[] parts;
        private final int[] matrices;
        private final char[] reading;
        private final char[] due;
        private final int[] widths;
        private boolean quads;
        private boolean cold;
        private boolean hairLine;
        private boolean there = true;
        private boolean inParagraph;
        private boolean marked;

        Slug(int number, int measure, int[] parts, int[] matrices) {
            this.number = number;
            this.measure = measure;
            this.parts = parts;
            this.matrices = matrices;
            reading = new char[matrices.length];
            due = new char[matrices.length];
            widths = new int[matrices.length];
        }

        boolean hasPlace(int place) {
            return place >= 0 && place < reading.length;
        }

        void putSign(int place, char sign, int width) {
            if (hasPlace(place)) {
                reading[place] = sign;
                due[place] = sign;
                widths[place] = width;
            }
        }

        /** How much of a part of the metal it holds, as long as it is there. */
        int holds(int part) {
            return there && part >= 0 && part < parts.length ? parts[part] : 0;
        }

        boolean isFilled() {
            int width = 0;
            for (int part : widths) {
                width += part;
            }
            return width == measure || quads && width < measure;
        }
    }

    /** The slugs of a paragraph, line by line, and why its latest setting stopped. */
    private static final class Paragraph {
        private ArrayList<Slug> rows = new ArrayList<>();
        private char cause = GOES_ON;

        void addRow(Slug slug) {
            slug.inParagraph = true;
            rows.add(slug);
        }

        boolean hasMark() {
            for (int i = 0; i < rows.size(); i++) {
                if (rows.get(i).marked) {
                    return true;
                }
            }
            return false;
        }

        ArrayList<Slug> takeRows() {
            ArrayList<Slug> taken = rows;
            rows = new ArrayList<>();
            for (int i = 0; i < taken.size(); i++) {
                taken.get(i).inParagraph = false;
            }
            return taken;
        }
    }
}
