import java.util.Random;
import java.util.Set;
import java.util.TreeSet;
import java.util.function.Supplier;

/** Random runs of 512 calls, always the same ones: the shop and the plain shop must answer alike. */
final class RandomTests {
    private static final int CALLS = 512;
    private static final int RUNS = 3000;
    // To tell a shop's whole state takes longer than a call, so just the first runs look at it.
    private static final int RUNS_WITH_STATE = 200;

    private final Random random;
    private final HotMetalShop shop = new HotMetalShop();
    private final PlainShop plain = new PlainShop();
    private final String letters;
    private final int[] weights = new int[12];
    private final StringBuilder told = new StringBuilder();
    private final Set<String> seen;
    private final boolean looksAtState;
    private int calls;
    private boolean differs;

    private RandomTests(long seed, Set<String> seen) {
        this.seen = seen;
        looksAtState = seed <= RUNS_WITH_STATE;
        random = new Random(seed);
        int first = random.nextInt(10);
        int kinds = 1 + random.nextInt(random.nextBoolean() ? 3 : 10);
        StringBuilder some = new StringBuilder();
        for (int i = 0; i < kinds; i++) {
            some.append((char) ('a' + (first + i) % 10));
        }
        letters = some.toString();
        for (int i = 0; i < weights.length; i++) {
            weights[i] = random.nextInt(8) * random.nextInt(3);
        }
    }

    static void run() {
        Set<String> seen = new TreeSet<>();
        Check.test("random runs", () -> {
            for (long seed = 1; seed <= RUNS; seed++) {
                RandomTests one = new RandomTests(seed, seen);
                one.go();
                if (one.differs) {
                    Check.fault("seed " + seed + ": " + one.told);
                    return;
                }
            }
        });
        Check.test("random runs meet what the document tells", () -> Check.text("met",
                "[anew, astray, cause -, cause e, cause f, cause l, cause m, cause q, cause w, cold, hair, jam, stays]",
                seen.toString()));
    }

    private void go() {
        prepare();
        while (calls < CALLS - 12 && !differs) {
            act();
        }
        while (calls < CALLS && !differs) {
            look();
        }
    }

    private void prepare() {
        for (char letter : letters.toCharArray()) {
            int many = 1 + random.nextInt(letters.length() < 6 ? 12 : 6);
            same("addMatrices " + letter + many, () -> shop.addMatrices(letter, many),
                    () -> plain.addMatrices(letter, many));
        }
        int[] fed = {random.nextInt(200), random.nextInt(200), random.nextInt(501)};
        same("feed", () -> shop.feed(fed[0], fed[1], fed[2]), () -> plain.feed(fed[0], fed[1], fed[2]));
        measure();
    }

    private void act() {
        int sum = 0;
        for (int weight : weights) {
            sum += weight + 1;
        }
        int at = random.nextInt(sum);
        int kind = 0;
        while (at > weights[kind]) {
            at -= weights[kind] + 1;
            kind++;
        }
        switch (kind) {
            case 0 -> handLine();
            case 1, 2 -> composeSome();
            case 3, 4, 5 -> correctSome();
            case 6 -> ticks();
            case 7 -> shopWork();
            case 8 -> sendMany();
            case 9 -> oneSign();
            default -> look();
        }
    }

    private char letter() {
        int kind = random.nextInt(40);
        return kind == 0 ? (char) (95 + random.nextInt(14)) : letters.charAt(random.nextInt(letters.length()));
    }

    private int number(int below) {
        return random.nextInt(20) == 0 ? random.nextInt(5) - 2 + (random.nextBoolean() ? below : 0)
                : below <= 0 ? 0 : random.nextInt(below);
    }

    private void oneSign() {
        if (random.nextInt(4) == 0) {
            same("wedge", shop::wedge, plain::wedge);
        } else {
            char letter = letter();
            same("key " + letter, () -> shop.key(letter), () -> plain.key(letter));
        }
    }

    private void handLine() {
        for (int i = random.nextInt(6); i >= 0; i--) {
            oneSign();
        }
        if (random.nextBoolean()) {
            same("tick 2", () -> shop.tick(2), () -> plain.tick(2));
        }
        same("wanting", shop::wanting, plain::wanting);
        same("send", shop::send, plain::send);
        if (random.nextBoolean()) {
            same("drop", shop::drop, plain::drop);
        }
    }

    /** Fills a line with what is wanting, so that sending goes well more often. */
    private void sendMany() {
        for (int turn = 0; turn < 3; turn++) {
            for (int i = 0; i < 8 && plain.wanting() > 2 + random.nextInt(8); i++) {
                oneSign();
            }
            for (int i = 0; i < 6 && plain.wanting() > 6 * i; i++) {
                same("wedge", shop::wedge, plain::wedge);
            }
            same("tick 2", () -> shop.tick(2), () -> plain.tick(2));
            same("send", shop::send, plain::send);
            same("drop", shop::drop, plain::drop);
            same("tick 9", () -> shop.tick(9), () -> plain.tick(9));
        }
    }

    private void composeSome() {
        if (plain.signs() > 0 && random.nextInt(5) > 0) {
            same("tick 2", () -> shop.tick(2), () -> plain.tick(2));
            same("drop", shop::drop, plain::drop);
        }
        int most = 1 + random.nextInt(4);
        int word = 0;
        for (int i = 1 + random.nextInt(random.nextInt(10) == 0 ? 70 : 20); i > 0; i--) {
            boolean blank = word >= 1 + random.nextInt(most);
            char sign = blank ? ' ' : letter();
            word = blank ? 0 : word + 1;
            same("type " + sign, () -> shop.type(sign), () -> plain.type(sign));
        }
        same("compose", shop::compose, plain::compose);
        int last = pars() - 1;
        same("causeOf", () -> shop.causeOf(last), () -> plain.causeOf(last));
    }

    private int pars() {
        int many = 0;
        while (many < 8) {
            try {
                plain.causeOf(many);
            } catch (IndexOutOfBoundsException e) {
                return many;
            }
            many++;
        }
        return many;
    }

    private void correctSome() {
        if (random.nextInt(3) == 0) {
            ticks();
        }
        int par = number(pars());
        for (int i = random.nextInt(4); i >= 0; i--) {
            int slug = slugIn(par);
            int place = number(slug < plain.slugs() && slug >= 0 ? plain.lengthOf(slug) : 3);
            char letter = letter();
            same("mark " + slug + " " + place + " " + letter,
                    () -> shop.mark(slug, place, letter), () -> plain.mark(slug, place, letter));
        }
        int before = plain.slugs();
        same("correct " + par, () -> shop.correct(par), () -> plain.correct(par));
        if (par >= 0 && par < pars()) {
            boolean anew = false;
            for (int i = 0; i < plain.lines(par); i++) {
                int line = i;
                boolean isNew = plain.slugAt(par, i) >= before;
                if (anew && !isNew) {
                    seen.add("stays");
                }
                anew |= isNew;
                same("slugAt", () -> shop.slugAt(par, line), () -> plain.slugAt(par, line));
            }
            if (anew) {
                seen.add("anew");
            }
            same("causeOf", () -> shop.causeOf(par), () -> plain.causeOf(par));
        }
    }

    private int slugIn(int par) {
        boolean inside = random.nextInt(10) > 0 && par >= 0 && par < pars() && plain.lines(par) > 0;
        return inside ? plain.slugAt(par, random.nextInt(plain.lines(par))) : number(plain.slugs());
    }

    private void ticks() {
        int many = random.nextInt(10) == 0 ? random.nextInt(53) : 1 + random.nextInt(12);
        same("tick " + many, () -> shop.tick(many), () -> plain.tick(many));
    }

    private void measure() {
        int measure = random.nextInt(3) > 0 ? 12 + random.nextInt(10) : 10 + random.nextInt(53);
        same("setMeasure " + measure, () -> shop.setMeasure(measure), () -> plain.setMeasure(measure));
    }

    private void shopWork() {
        char letter = letter();
        int number = number(60);
        switch (random.nextInt(8)) {
            case 0 -> measure();
            case 1 -> {
                int heat = random.nextInt(8) == 0 ? 197 + random.nextInt(160) : 240 + random.nextInt(70);
                same("setHeat " + heat, () -> shop.setHeat(heat), () -> plain.setHeat(heat));
            }
            case 2 -> {
                int[] fed = {random.nextInt(60) - 1, random.nextInt(60), random.nextInt(510)};
                same("feed", () -> shop.feed(fed[0], fed[1], fed[2]), () -> plain.feed(fed[0], fed[1], fed[2]));
            }
            case 3 -> same("mend " + number, () -> shop.mend(number), () -> plain.mend(number));
            case 4 -> same("clear " + letter, () -> shop.clear(letter), () -> plain.clear(letter));
            case 5 -> {
                int many = random.nextInt(5);
                same("addMatrices " + letter + many, () -> shop.addMatrices(letter, many),
                        () -> plain.addMatrices(letter, many));
            }
            case 6 -> {
                int slug = number(plain.slugs());
                same("melt " + slug, () -> shop.melt(slug), () -> plain.melt(slug));
            }
            default -> same("drop", shop::drop, plain::drop);
        }
    }

    private void look() {
        char letter = letter();
        int matrix = number(60);
        int slug = number(plain.slugs());
        int place = number(8);
        int par = number(pars());
        char part = "talx".charAt(random.nextInt(4));
        char where = "psfdx".charAt(random.nextInt(5));
        switch (random.nextInt(27)) {
            case 0 -> same("letterOf", () -> shop.letterOf(matrix), () -> plain.letterOf(matrix));
            case 1 -> same("placeOf", () -> shop.placeOf(matrix), () -> plain.placeOf(matrix));
            case 2 -> same("channelOf", () -> shop.channelOf(matrix), () -> plain.channelOf(matrix));
            case 3 -> same("wearOf", () -> shop.wearOf(matrix), () -> plain.wearOf(matrix));
            case 4 -> same("channel", () -> shop.channel(letter), () -> plain.channel(letter));
            case 5 -> same("front", () -> shop.front(letter), () -> plain.front(letter));
            case 6 -> same("signs", shop::signs, plain::signs);
            case 7 -> same("signAt", () -> shop.signAt(place), () -> plain.signAt(place));
            case 8 -> same("wanting", shop::wanting, plain::wanting);
            case 9 -> same("now", shop::now, plain::now);
            case 10 -> same("heat", shop::heat, plain::heat);
            case 11, 12 -> same("metal", () -> shop.metal(part, where), () -> plain.metal(part, where));
            case 13 -> same("causeOf", () -> shop.causeOf(par), () -> plain.causeOf(par));
            case 14 -> same("lines", () -> shop.lines(par), () -> plain.lines(par));
            case 15 -> same("slugAt", () -> shop.slugAt(par, place), () -> plain.slugAt(par, place));
            case 16 -> same("slugs", shop::slugs, plain::slugs);
            case 17 -> same("isThere", () -> shop.isThere(slug), () -> plain.isThere(slug));
            case 18 -> same("lengthOf", () -> shop.lengthOf(slug), () -> plain.lengthOf(slug));
            case 19 -> same("proof", () -> shop.proof(slug, place), () -> plain.proof(slug, place));
            case 20 -> same("spaceAt", () -> shop.spaceAt(slug, place), () -> plain.spaceAt(slug, place));
            case 21 -> same("isCold", () -> shop.isCold(slug), () -> plain.isCold(slug));
            case 22 -> same("hasHairLine", () -> shop.hasHairLine(slug), () -> plain.hasHairLine(slug));
            case 23 -> {
                int many = number(6);
                int height = 3 * many + number(2 * many);
                same("lead", () -> shop.lead(slug, many, height, place), () -> plain.lead(slug, many, height, place));
            }
            case 24 -> same("ems", shop::ems, plain::ems);
            case 25 -> same("goodShare", shop::goodShare, plain::goodShare);
            default -> same("meanWear", shop::meanWear, plain::meanWear);
        }
        same("isJammed", shop::isJammed, plain::isJammed);
        same("isSound", shop::isSound, plain::isSound);
    }

    private void same(String call, Supplier<Object> ours, Supplier<Object> theirs) {
        if (differs || calls >= CALLS) {
            return;
        }
        calls++;
        String want = answer(theirs);
        String before = looksAtState ? Inside.state(shop) : "";
        String got = answer(ours);
        told.append("\n      ").append(call).append(" -> ").append(want);
        if (!want.equals(got)) {
            differs = true;
            told.append(", answered ").append(got);
        } else if (looksAtState && want.startsWith("throws.") && !before.equals(Inside.state(shop))) {
            differs = true;
            told.append(", but has changed the shop");
        }
        note(call, want);
    }

    private void note(String call, String answer) {
        if (call.equals("causeOf") && answer.length() == 1) {
            seen.add("cause " + answer);
        } else if (call.equals("isJammed") && answer.equals("true")) {
            seen.add("jam");
        } else if (call.equals("isCold") && answer.equals("true")) {
            seen.add("cold");
        } else if (call.equals("hasHairLine") && answer.equals("true")) {
            seen.add("hair");
        } else if (call.startsWith("clear") && answer.matches("[1-9]")) {
            seen.add("astray");
        }
    }

    private static String answer(Supplier<Object> call) {
        try {
            return String.valueOf(call.get());
        } catch (RuntimeException e) {
            boolean isOwn = Check.isThrownIn(HotMetalShop.class, e) || Check.isThrownIn(PlainShop.class, e);
            return (isOwn ? "throws." : "the machine throws.") + e.getClass().getSimpleName();
        }
    }
}
