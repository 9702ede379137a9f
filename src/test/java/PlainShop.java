import java.util.ArrayList;
import java.util.Arrays;
import java.util.Comparator;
import java.util.HashSet;
import java.util.LinkedHashMap;
import java.util.List;
import java.util.Map;
import java.util.NoSuchElementException;
import java.util.Set;

/**
 * The document told once more, with lists, maps and words instead of rows and places, and without care for room
 * or time. The random runs ask both programs the same.
 */
final class PlainShop {
    private static final class Mat {
        int id;
        char letter;
        int wear;
        char where = 'm';
        int comes;
    }

    private record Sign(Mat mat, int comes) {
        int width() {
            return mat == null ? 0 : width(mat.letter);
        }

        static int width(char letter) {
            return 2 + (letter - 'a') % 4;
        }
    }

    private static final class Slug {
        int id;
        int measure;
        String text;
        List<Integer> spaces = new ArrayList<>();
        int[] parts;
        boolean cold;
        boolean hair;
        boolean there = true;
        Par par;
        Map<Integer, Character> marks = new LinkedHashMap<>();
    }

    private static final class Par {
        List<Slug> lines = new ArrayList<>();
        char cause = '-';
    }

    private final List<Mat> mats = new ArrayList<>();
    private final Map<Character, List<Mat>> channels = new LinkedHashMap<>();
    private final List<Sign> line = new ArrayList<>();
    private final List<Slug> slugs = new ArrayList<>();
    private final List<Par> pars = new ArrayList<>();
    private final Map<String, Integer> metal = new LinkedHashMap<>();
    private String copy = "";
    private int measure = 30;
    private int tick;
    private int heat = 280;
    private int wish = 280;
    private long ems;

    PlainShop() {
        for (char c = 'a'; c <= 'j'; c++) {
            channels.put(c, new ArrayList<>());
        }
        for (char part : "tal".toCharArray()) {
            for (char where : "psfd".toCharArray()) {
                metal.put("" + part + where, 0);
            }
        }
    }

    private static void argue(boolean right) {
        if (!right) {
            throw new IllegalArgumentException();
        }
    }

    private static void state(boolean right) {
        if (!right) {
            throw new IllegalStateException();
        }
    }

    private static void support(boolean right) {
        if (!right) {
            throw new UnsupportedOperationException();
        }
    }

    private static void element(boolean right) {
        if (!right) {
            throw new NoSuchElementException();
        }
    }

    private static <T> T in(List<T> list, int index) {
        if (index < 0 || index >= list.size()) {
            throw new IndexOutOfBoundsException();
        }
        return list.get(index);
    }

    private List<Mat> row(char letter) {
        argue(channels.containsKey(letter));
        return channels.get(letter);
    }

    int addMatrices(char letter, int many) {
        List<Mat> row = row(letter);
        argue(many >= 1 && many <= 12);
        state(row.size() + many <= 12 && mats.size() + many <= 60);
        for (int i = 0; i < many; i++) {
            Mat mat = new Mat();
            mat.id = mats.size();
            mat.letter = letter;
            mats.add(mat);
            row.add(mat);
        }
        return mats.size();
    }

    char letterOf(int m) {
        return in(mats, m).letter;
    }

    char placeOf(int m) {
        return in(mats, m).where;
    }

    char channelOf(int m) {
        Mat mat = in(mats, m);
        for (Map.Entry<Character, List<Mat>> entry : channels.entrySet()) {
            if (entry.getValue().contains(mat)) {
                return entry.getKey();
            }
        }
        throw new NoSuchElementException();
    }

    int wearOf(int m) {
        return in(mats, m).wear;
    }

    int mend(int m) {
        Mat mat = in(mats, m);
        support(mat.where == 'm');
        int before = mat.wear;
        mat.wear = 0;
        return before;
    }

    int channel(char letter) {
        return row(letter).size();
    }

    int front(char letter) {
        List<Mat> row = row(letter);
        element(!row.isEmpty());
        return row.get(0).id;
    }

    int clear(char letter) {
        List<Mat> row = row(letter);
        List<Mat> had = new ArrayList<>(row);
        int others = 0;
        row.clear();
        for (Mat mat : had) {
            if (mat.letter != letter) {
                others++;
            }
            if (mat.letter != letter && channels.get(mat.letter).size() < 12) {
                channels.get(mat.letter).add(mat);
            } else {
                row.add(mat);
            }
        }
        return others;
    }

    boolean isJammed() {
        return mats.stream().anyMatch(m -> m.where == 'r' && m.comes <= tick);
    }

    int setMeasure(int to) {
        argue(to >= 12 && to <= 60);
        support(line.isEmpty());
        int before = measure;
        measure = to;
        return before;
    }

    int key(char letter) {
        List<Mat> row = row(letter);
        support(line.size() < 30);
        state(!row.isEmpty());
        Mat mat = row.remove(0);
        mat.where = 'l';
        line.add(new Sign(mat, tick + (letter - 'a') % 3));
        return mat.id;
    }

    int wedge() {
        support(line.size() < 30);
        line.add(new Sign(null, tick));
        return line.size();
    }

    int signs() {
        return line.size();
    }

    private List<Sign> standing() {
        List<Sign> standing = new ArrayList<>(line);
        standing.sort(Comparator.comparingInt(Sign::comes));
        return standing;
    }

    char signAt(int index) {
        Sign sign = in(standing(), index);
        return sign.mat == null ? ' ' : sign.mat.letter;
    }

    int wanting() {
        return measure - line.stream().mapToInt(Sign::width).sum();
    }

    private int wedges() {
        return (int) line.stream().filter(s -> s.mat == null).count();
    }

    private boolean falls() {
        return line.stream().anyMatch(s -> s.comes > tick);
    }

    private int pot() {
        return metal.get("tp") + metal.get("ap") + metal.get("lp");
    }

    int send() {
        support(!line.isEmpty() && !falls() && wanting() >= 2 * wedges() && wanting() <= 6 * wedges());
        state(pot() >= measure);
        Slug slug = cast(wanting());
        return slug == null ? -1 : slug.id;
    }

    private void shift(char part, char from, char to, int many) {
        metal.merge("" + part + from, -many, Integer::sum);
        metal.merge("" + part + to, many, Integer::sum);
    }

    private int[] parts() {
        int[] parts = new int[3];
        parts[0] = (int) Math.floor((double) measure * metal.get("tp") / pot() + 1e-9);
        parts[1] = (int) Math.floor((double) measure * metal.get("ap") / pot() + 1e-9);
        for (char part : "lta".toCharArray()) {
            int which = "tal".indexOf(part);
            while (Arrays.stream(parts).sum() < measure && parts[which] < metal.get(part + "p")) {
                parts[which]++;
            }
        }
        return parts;
    }

    private Slug cast(int spaces) {
        int[] parts = parts();
        Slug slug = null;
        char to = heat > 300 ? 'f' : 's';
        for (int i = 0; i < 3; i++) {
            shift("tal".charAt(i), 'p', to, parts[i]);
        }
        if (to == 's') {
            slug = new Slug();
            slug.id = slugs.size();
            slug.measure = measure;
            slug.parts = parts;
            slug.cold = heat < 250;
            StringBuilder text = new StringBuilder();
            int more = wedges() == 0 ? 0 : spaces % wedges();
            for (Sign sign : standing()) {
                text.append(sign.mat == null ? ' ' : sign.mat.letter);
                if (sign.mat == null) {
                    slug.spaces.add(spaces / wedges() + (more-- > 0 ? 1 : 0));
                } else {
                    slug.spaces.add(-1);
                    slug.hair |= sign.mat.wear >= 6;
                }
            }
            slug.text = text.toString();
            slugs.add(slug);
            ems += slug.cold || slug.hair ? 0 : measure;
        }
        heat -= 5;
        for (Sign sign : line) {
            if (sign.mat != null) {
                sign.mat.wear++;
            }
        }
        home();
        return slug;
    }

    private void home() {
        int comes = tick + 5;
        for (Sign sign : standing()) {
            if (sign.mat != null) {
                sign.mat.where = 'r';
                sign.mat.comes = comes++;
            }
        }
        line.clear();
    }

    int drop() {
        support(!falls());
        int had = line.size();
        home();
        return had;
    }

    int tick(int ticks) {
        argue(ticks >= 1 && ticks <= 50);
        state(tick + ticks <= 3000);
        for (int i = 0; i < ticks; i++) {
            pass();
        }
        return tick;
    }

    private void pass() {
        tick++;
        List<Mat> due = new ArrayList<>(mats);
        due.removeIf(m -> m.where != 'r' || m.comes > tick);
        due.sort(Comparator.<Mat>comparingInt(m -> m.comes).thenComparingInt(m -> m.id));
        for (Mat mat : due) {
            char to = mat.letter;
            if (mat.wear >= 9) {
                to = to == 'j' ? 'a' : (char) (to + 1);
            }
            if (channels.get(to).size() == 12) {
                break;
            }
            channels.get(to).add(mat);
            mat.where = 'm';
        }
        for (int i = 0; i < 2; i++) {
            heat += Integer.signum(wish - heat);
        }
        if (tick % 10 == 0 && heat > 280) {
            for (char part : "ta".toCharArray()) {
                shift(part, 'p', 'd', Math.min(1, metal.get(part + "p")));
            }
        }
    }

    int now() {
        return tick;
    }

    int setHeat(int to) {
        argue(to >= 200 && to <= 350);
        int before = wish;
        wish = to;
        return before;
    }

    int heat() {
        return heat;
    }

    int feed(int tin, int antimony, int lead) {
        for (int part : new int[] {tin, antimony, lead}) {
            argue(part >= 0 && part <= 500);
        }
        state(pot() + tin + antimony + lead <= 3000);
        metal.merge("tp", tin, Integer::sum);
        metal.merge("ap", antimony, Integer::sum);
        metal.merge("lp", lead, Integer::sum);
        return pot();
    }

    int metal(char part, char where) {
        argue(metal.containsKey("" + part + where));
        return metal.get("" + part + where);
    }

    int type(char sign) {
        argue(sign == ' ' || channels.containsKey(sign));
        support(sign != ' ' || !(copy.isEmpty() || copy.endsWith(" ")));
        state(copy.length() < 60);
        copy += sign;
        return copy.length();
    }

    int compose() {
        support(!copy.isEmpty() && line.isEmpty());
        state(pars.size() < 8 && tick <= 2000);
        Par par = new Par();
        pars.add(par);
        set(par, Arrays.asList(copy.trim().split(" ")), new LinkedHashMap<>());
        copy = "";
        return pars.size() - 1;
    }

    private static int letters(List<String> words) {
        return String.join("", words).chars().map(c -> Sign.width((char) c)).sum();
    }

    /** Sets words; the lines that may stay are told by the number of their first word. */
    private int set(Par par, List<String> words, Map<Integer, Slug> stay) {
        par.cause = '-';
        int anew = 0;
        int due = 0;
        while (due < words.size()) {
            if (stay.containsKey(due)) {
                Slug slug = stay.get(due);
                par.lines.add(slug);
                slug.par = par;
                due += slug.text.split(" ").length;
                continue;
            }
            int many = 0;
            while (due + many < words.size() && letters(words.subList(due, due + many + 1)) + 2 * many <= measure) {
                many++;
            }
            List<String> taken = words.subList(due, due + many);
            boolean last = due + many == words.size();
            boolean loose = !last && letters(taken) + 6 * (many - 1) < measure;
            par.cause = many == 0 ? 'w' : loose ? 'l' : row(taken, last, par);
            if (par.cause != '-') {
                return anew;
            }
            anew++;
            due += many;
        }
        return anew;
    }

    private char row(List<String> words, boolean last, Par par) {
        for (char sign : String.join(" ", words).toCharArray()) {
            int falls = sign == ' ' ? 0 : (sign - 'a') % 3;
            while (line.stream().anyMatch(s -> s.comes > tick + falls)) {
                pass();
            }
            if (sign == ' ') {
                wedge();
            } else if (channels.get(sign).isEmpty()) {
                return stop('e');
            } else {
                key(sign);
            }
        }
        while (falls()) {
            pass();
        }
        if (wanting() < 2 * wedges() || !last && wanting() > 6 * wedges()) {
            return stop('f');
        }
        if (pot() < measure) {
            return stop('m');
        }
        Slug slug = cast(last ? 2 * wedges() : wanting());
        if (slug == null) {
            return 'q';
        }
        par.lines.add(slug);
        slug.par = par;
        return '-';
    }

    private char stop(char cause) {
        while (falls()) {
            pass();
        }
        home();
        return cause;
    }

    char causeOf(int par) {
        return in(pars, par).cause;
    }

    int lines(int par) {
        return in(pars, par).lines.size();
    }

    int slugAt(int par, int line) {
        return in(in(pars, par).lines, line).id;
    }

    boolean mark(int slug, int place, char letter) {
        Slug marked = in(slugs, slug);
        if (place < 0 || place >= marked.text.length() || marked.text.charAt(place) == ' ') {
            throw new IndexOutOfBoundsException();
        }
        element(marked.there);
        support(marked.par != null);
        argue(channels.containsKey(letter));
        marked.marks.put(place, letter);
        return marked.text.charAt(place) != letter;
    }

    int correct(int par) {
        Par corrected = in(pars, par);
        element(corrected.lines.stream().anyMatch(s -> !s.marks.isEmpty()));
        support(line.isEmpty());
        state(tick <= 2000);
        List<Slug> old = corrected.lines;
        corrected.lines = new ArrayList<>();
        List<String> words = new ArrayList<>();
        Map<Integer, Slug> stay = new LinkedHashMap<>();
        for (Slug slug : old) {
            StringBuilder text = new StringBuilder(slug.text);
            slug.marks.forEach((place, letter) -> text.setCharAt(place, letter));
            if (slug.marks.isEmpty()) {
                stay.put(words.size(), slug);
            }
            words.addAll(Arrays.asList(text.toString().split(" ")));
        }
        int anew = set(corrected, words, stay);
        Set<Slug> left = new HashSet<>(old);
        left.removeAll(new HashSet<>(corrected.lines));
        left.forEach(this::meltDown);
        return anew;
    }

    private void meltDown(Slug slug) {
        slug.there = false;
        for (int i = 0; i < 3; i++) {
            shift("tal".charAt(i), 's', 'p', slug.parts[i]);
        }
    }

    int slugs() {
        return slugs.size();
    }

    boolean isThere(int slug) {
        return in(slugs, slug).there;
    }

    int lengthOf(int slug) {
        return in(slugs, slug).text.length();
    }

    char proof(int slug, int place) {
        String text = in(slugs, slug).text;
        if (place < 0 || place >= text.length()) {
            throw new IndexOutOfBoundsException();
        }
        return text.charAt(place);
    }

    int spaceAt(int slug, int place) {
        int space = in(in(slugs, slug).spaces, place);
        if (space < 0) {
            throw new IndexOutOfBoundsException();
        }
        return space;
    }

    boolean isCold(int slug) {
        return in(slugs, slug).cold;
    }

    boolean hasHairLine(int slug) {
        return in(slugs, slug).hair;
    }

    int melt(int slug) {
        Slug melted = in(slugs, slug);
        element(melted.there);
        support(melted.par == null);
        meltDown(melted);
        return melted.measure;
    }

    int lead(int first, int many, int height, int gap) {
        argue(many >= 2);
        if (first < 0 || (long) first + many > slugs.size()) {
            throw new IndexOutOfBoundsException();
        }
        element(slugs.subList(first, first + many).stream().allMatch(s -> s.there));
        int[] leads = new int[many - 1];
        long left = height - 3L * many;
        element(left >= 0 && left <= 2L * leads.length);
        for (int i = 0; left > 0; i = (i + 1) % leads.length) {
            leads[i]++;
            left--;
        }
        support(gap >= 0 && gap < leads.length);
        return leads[gap];
    }

    long ems() {
        return ems;
    }

    float goodShare() {
        if (slugs.isEmpty()) {
            throw new ArithmeticException();
        }
        return (float) slugs.stream().filter(s -> !s.cold && !s.hair).count() / (float) slugs.size();
    }

    double meanWear() {
        if (mats.isEmpty()) {
            throw new ArithmeticException();
        }
        return (double) mats.stream().mapToInt(m -> m.wear).sum() / (double) mats.size();
    }

    boolean isSound() {
        return true;
    }
}
