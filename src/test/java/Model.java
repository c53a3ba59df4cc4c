import java.util.ArrayDeque;
import java.util.ArrayList;
import java.util.Arrays;
import java.util.Deque;
import java.util.HashSet;
import java.util.List;
import java.util.NoSuchElementException;
import java.util.Set;
import java.util.function.Predicate;
import java.util.function.ToIntFunction;

/**
 * The document once more, as slow and as plain as it can be said, by other ways than LeastWords: a stack
 * of what may come for FAULTS, splitting for TRUTHS, all DESCRIPTIONS tried for each question.
 */
final class Model {
    /** A CHEST as somebody sees it. */
    static final class Seen {
        final int[] looks;
        final int number;

        Seen(int[] looks, int number) {
            this.looks = looks;
            this.number = number;
        }
    }

    static final class Word {
        int cost = 1;
        boolean sound;
        Predicate<Seen> truth;
    }

    /** All that an IMAGE keeps but the DEEDS. */
    static final class World implements Cloneable {
        int lines = 0;
        int marks = 1;
        int hire = 2;
        int people = 2;
        List<Word> words = new ArrayList<>();
        List<int[]> lamps = new ArrayList<>();
        List<int[]> chests = new ArrayList<>();
        List<Boolean> in = new ArrayList<>();
        boolean lit;
        int stake = -1;
        Integer[] claims = new Integer[6];
        int[] wins = new int[6];
        Set<Integer> used = new HashSet<>();

        World twin() {
            World w = new World();
            w.lines = lines;
            w.marks = marks;
            w.hire = hire;
            w.people = people;
            w.words = words;
            w.lamps = lamps;
            for (int[] c : chests) {
                w.chests.add(c.clone());
            }
            w.in.addAll(in);
            w.lit = lit;
            w.stake = stake;
            w.claims = claims.clone();
            w.wins = wins.clone();
            w.used.addAll(used);
            return w;
        }
    }

    private final List<Integer> tape = new ArrayList<>();
    private int fault = 0;
    private int place = -1;
    private World world = new World();
    private List<World> past = new ArrayList<>();
    private final World[] imageWorlds = new World[3];
    private final List<List<World>> imagePasts = new ArrayList<>(Arrays.asList(null, null, null));
    private final long[][] trays = new long[4][];
    private final int[] sorts = new int[4];

    // ---- tokens

    private static final class Tok {
        final String text;
        final int at;

        Tok(String text, int at) {
            this.text = text;
            this.at = at;
        }

        boolean isNumber() {
            return text.matches("[0-9]{1,3}");
        }
    }

    private static List<Tok> tokens(int[] bytes) {
        List<Tok> all = new ArrayList<>();
        int i = 0;
        while (i < bytes.length) {
            int b = bytes[i];
            if (b == 10 || b == 32) {
                i++;
                continue;
            }
            int j = i + 1;
            String letters = "abcdefghijklmnopqrstuvwxyz";
            String digits = "0123456789";
            for (String kind : new String[] {letters, digits}) {
                if (kind.indexOf(b) >= 0) {
                    while (j < bytes.length && kind.indexOf(bytes[j]) >= 0) {
                        j++;
                    }
                }
            }
            StringBuilder text = new StringBuilder();
            for (int k = i; k < j; k++) {
                text.append((char) bytes[k]);
            }
            all.add(new Tok(text.toString(), i));
            i = j;
        }
        all.add(new Tok("", bytes.length));
        return all;
    }

    // ---- faults: what may come lies on a stack

    private static int[] firstFault(List<Tok> toks) {
        Deque<String> stack = new ArrayDeque<>();
        push(stack, "marks", "N 1 6 marks", ";", "LINES");
        int marks = 1;
        int chests = 0;
        int words = 0;
        int lamps = 0;
        int nested = 0;
        int i = 0;
        while (!stack.isEmpty()) {
            Tok t = toks.get(i);
            String top = stack.pop();
            if (top.equals("UNNEST")) {
                nested--;
                continue;
            }
            boolean end = t.text.isEmpty();
            if (!end && !t.text.matches("[a-z]+|[0-9]{1,3}|[;:+*()=<>\\[\\]-]")) {
                return new int[] {1, t.at};
            }
            String x = t.text;
            if (top.startsWith("N ")) {
                String[] bounds = top.split(" ");
                if (!t.isNumber()) {
                    return new int[] {2, t.at};
                }
                int n = Integer.parseInt(x);
                if (n < Integer.parseInt(bounds[1]) || n > Integer.parseInt(bounds[2])) {
                    return new int[] {3, t.at};
                }
                if (bounds.length > 3) {
                    marks = n;
                }
                i++;
                continue;
            }
            switch (top) {
                case "LINES":
                    if (end) {
                        return null;
                    }
                    if (x.equals("chest") || x.equals("spare")) {
                        if (++chests > 14) {
                            return new int[] {4, t.at};
                        }
                        push(stack, x, "ROW", ";", "LINES");
                    } else if (x.equals("word")) {
                        if (++words > 10) {
                            return new int[] {4, t.at};
                        }
                        push(stack, x, "SOUND?", "COST?", ":", "TRUTH", ";", "LINES");
                    } else if (x.equals("lamp")) {
                        if (++lamps > 8) {
                            return new int[] {4, t.at};
                        }
                        push(stack, x, "N 0 " + (marks - 1), "N 0 9", "N 0 9", ";", "LINES");
                    } else if (x.equals("hire")) {
                        push(stack, x, "N 0 9", ";", "LINES");
                    } else if (x.equals("people")) {
                        push(stack, x, "N 1 6", ";", "LINES");
                    } else {
                        return new int[] {2, t.at};
                    }
                    break;
                case "ROW":
                    for (int m = 0; m < marks; m++) {
                        push(stack, "N 0 9");
                    }
                    break;
                case "SOUND?":
                    if (x.equals("sound")) {
                        push(stack, x);
                    }
                    break;
                case "COST?":
                    if (x.equals("cost")) {
                        push(stack, x, "N 1 9");
                    }
                    break;
                case "TRUTH":
                    push(stack, "UNIT", "MORE UNITS");
                    break;
                case "MORE UNITS":
                    if (x.equals("or") || x.equals("and")) {
                        push(stack, x, "UNIT", "MORE UNITS");
                    }
                    break;
                case "UNIT":
                    if (x.equals("not")) {
                        push(stack, "NEST", "UNIT", "UNNEST");
                    } else if (x.equals("[")) {
                        push(stack, "NEST", "TRUTH", "]", "UNNEST");
                    } else {
                        push(stack, "SUM", "COMPARE", "SUM");
                    }
                    break;
                case "NEST":
                    if (++nested > 6) {
                        return new int[] {4, t.at};
                    }
                    i++;
                    break;
                case "COMPARE":
                    if (!x.equals("=") && !x.equals("<") && !x.equals(">")) {
                        return new int[] {2, t.at};
                    }
                    i++;
                    break;
                case "SUM":
                    push(stack, "ATOM", "MORE ATOMS");
                    break;
                case "MORE ATOMS":
                    if (x.equals("+") || x.equals("-") || x.equals("*")) {
                        push(stack, x, "ATOM", "MORE ATOMS");
                    }
                    break;
                case "ATOM":
                    if (t.isNumber()) {
                        i++;
                    } else if (x.equals("m")) {
                        push(stack, "m", "N 0 " + (marks - 1));
                    } else if (x.equals("has")) {
                        push(stack, "has", "N 0 9");
                    } else if (x.equals("sum") || x.equals("alike") || x.equals("number")) {
                        i++;
                    } else if (x.equals("(")) {
                        push(stack, "NEST", "SUM", ")", "UNNEST");
                    } else {
                        return new int[] {2, t.at};
                    }
                    break;
                default:
                    if (!top.equals(x)) {
                        return new int[] {2, t.at};
                    }
                    i++;
            }
        }
        return null;
    }

    private static void push(Deque<String> stack, String... symbols) {
        for (int k = symbols.length - 1; k >= 0; k--) {
            stack.push(symbols[k]);
        }
    }

    // ---- a text without faults

    private static World build(List<Tok> toks) {
        World w = new World();
        List<String> line = new ArrayList<>();
        for (Tok t : toks) {
            if (t.text.equals(";")) {
                addLine(w, line);
                line = new ArrayList<>();
                w.lines++;
            } else {
                line.add(t.text);
            }
        }
        w.stake = w.in.indexOf(true);
        return w;
    }

    private static void addLine(World w, List<String> line) {
        switch (line.get(0)) {
            case "marks":
                w.marks = Integer.parseInt(line.get(1));
                break;
            case "chest":
            case "spare":
                int[] row = new int[w.marks];
                for (int m = 0; m < w.marks; m++) {
                    row[m] = Integer.parseInt(line.get(m + 1));
                }
                w.chests.add(row);
                w.in.add(line.get(0).equals("chest"));
                break;
            case "lamp":
                w.lamps.add(new int[] {Integer.parseInt(line.get(1)), Integer.parseInt(line.get(2)),
                    Integer.parseInt(line.get(3))});
                break;
            case "hire":
                w.hire = Integer.parseInt(line.get(1));
                break;
            case "people":
                w.people = Integer.parseInt(line.get(1));
                break;
            default:
                Word word = new Word();
                word.sound = line.contains("sound");
                int cost = line.indexOf("cost");
                if (cost >= 0) {
                    word.cost = Integer.parseInt(line.get(cost + 1));
                }
                word.truth = truth(line.subList(line.indexOf(":") + 1, line.size()));
                w.words.add(word);
        }
    }

    /** The last place of one of some signs outside of all brackets; -1. */
    private static int lastOf(List<String> t, String... signs) {
        int depth = 0;
        for (int i = t.size() - 1; i >= 0; i--) {
            String x = t.get(i);
            if (x.equals(")") || x.equals("]")) {
                depth++;
            } else if (x.equals("(") || x.equals("[")) {
                depth--;
            } else if (depth == 0 && Arrays.asList(signs).contains(x)) {
                return i;
            }
        }
        return -1;
    }

    private static Predicate<Seen> truth(List<String> t) {
        int or = lastOf(t, "or");
        if (or >= 0) {
            return truth(t.subList(0, or)).or(truth(t.subList(or + 1, t.size())));
        }
        int and = lastOf(t, "and");
        if (and >= 0) {
            return truth(t.subList(0, and)).and(truth(t.subList(and + 1, t.size())));
        }
        if (t.get(0).equals("not")) {
            return truth(t.subList(1, t.size())).negate();
        }
        if (t.get(0).equals("[")) {
            return truth(t.subList(1, t.size() - 1));
        }
        int at = lastOf(t, "=", "<", ">");
        ToIntFunction<Seen> a = sum(t.subList(0, at));
        ToIntFunction<Seen> b = sum(t.subList(at + 1, t.size()));
        switch (t.get(at)) {
            case "=":
                return s -> a.applyAsInt(s) == b.applyAsInt(s);
            case "<":
                return s -> a.applyAsInt(s) < b.applyAsInt(s);
            default:
                return s -> a.applyAsInt(s) > b.applyAsInt(s);
        }
    }

    private static int keep(long x) {
        return x > 1000000 ? 1000000 : x < -1000000 ? -1000000 : (int) x;
    }

    private static ToIntFunction<Seen> sum(List<String> t) {
        int at = lastOf(t, "+", "-");
        if (at < 0) {
            at = lastOf(t, "*");
        }
        if (at >= 0) {
            ToIntFunction<Seen> a = sum(t.subList(0, at));
            ToIntFunction<Seen> b = sum(t.subList(at + 1, t.size()));
            switch (t.get(at)) {
                case "+":
                    return s -> keep((long) a.applyAsInt(s) + b.applyAsInt(s));
                case "-":
                    return s -> keep((long) a.applyAsInt(s) - b.applyAsInt(s));
                default:
                    return s -> keep((long) a.applyAsInt(s) * b.applyAsInt(s));
            }
        }
        switch (t.get(0)) {
            case "(":
                return sum(t.subList(1, t.size() - 1));
            case "m":
                int m = Integer.parseInt(t.get(1));
                return s -> s.looks[m];
            case "has":
                int n = Integer.parseInt(t.get(1));
                return s -> Arrays.stream(s.looks).anyMatch(x -> x == n) ? 1 : 0;
            case "sum":
                return s -> Arrays.stream(s.looks).sum();
            case "alike":
                return s -> {
                    int twos = 0;
                    for (int x = 0; x <= 9; x++) {
                        int y = x;
                        int k = (int) Arrays.stream(s.looks).filter(z -> z == y).count();
                        twos += k * (k - 1) / 2;
                    }
                    return twos;
                };
            case "number":
                return s -> s.number;
            default:
                int v = Integer.parseInt(t.get(0));
                return s -> v;
        }
    }

    // ---- what is true in a world

    private static int[] looks(World w, int c, boolean lamp) {
        int[] looks = w.chests.get(c).clone();
        if (lamp) {
            for (int m = 0; m < looks.length; m++) {
                for (int[] l : w.lamps) {
                    if (l[0] == m && l[1] == w.chests.get(c)[m]) {
                        looks[m] = l[2];
                        break;
                    }
                }
            }
        }
        return looks;
    }

    private static int truths(World w, Seen seen) {
        int bits = 0;
        for (int i = 0; i < w.words.size(); i++) {
            if (w.words.get(i).truth.test(seen)) {
                bits += 1 << i;
            }
        }
        return bits;
    }

    private static int truths(World w, int c, boolean lamp) {
        return truths(w, new Seen(looks(w, c, lamp), c));
    }

    private static int[] allTruths(World w, boolean lamp) {
        int[] all = new int[w.chests.size()];
        for (int c = 0; c < all.length; c++) {
            all[c] = truths(w, c, lamp);
        }
        return all;
    }

    private static int inBits(World w) {
        int bits = 0;
        for (int c = 0; c < w.in.size(); c++) {
            if (w.in.get(c)) {
                bits += 1 << c;
            }
        }
        return bits;
    }

    private static int fitting(int[] truths, int in, int d) {
        int bits = 0;
        for (int c = 0; c < truths.length; c++) {
            boolean fits = (in >> c) % 2 == 1;
            for (int i = 0; i < 10; i++) {
                boolean holds = (truths[c] >> i) % 2 == 1;
                if ((d >> i) % 2 == 1 && !holds || (d >> i + 10) % 2 == 1 && holds) {
                    fits = false;
                }
            }
            if (fits) {
                bits += 1 << c;
            }
        }
        return bits;
    }

    private static int costs(World w, int d) {
        int cost = 0;
        for (int i = 0; i < w.words.size(); i++) {
            boolean said = (d >> i) % 2 == 1;
            boolean denied = (d >> i + 10) % 2 == 1;
            if (said || denied) {
                cost += w.words.get(i).cost + (denied ? 1 : 0) + (w.used.contains(i) ? w.hire : 0);
            }
        }
        return cost;
    }

    /** All DESCRIPTIONS in the order of their numbers. */
    private static List<Integer> descriptions(World w) {
        List<Integer> all = new ArrayList<>();
        int many = 1 << w.words.size();
        for (int denied = 0; denied < many; denied++) {
            for (int said = 0; said < many; said++) {
                if ((said & denied) == 0) {
                    all.add(denied << 10 | said);
                }
            }
        }
        return all;
    }

    private static int told(int[] truths, int in, int d) {
        int fit = fitting(truths, in, d);
        for (int c = 0; c < 14; c++) {
            if (fit == 1 << c) {
                return c;
            }
        }
        return -1;
    }

    private int told(int d) {
        return told(allTruths(world, world.lit), inBits(world), d);
    }

    /** {number, cost} of the least that TELLS a CHEST; null. */
    private static int[] leastOf(World w, int in, int c, boolean soundOnly, boolean anyLight) {
        int[] now = allTruths(w, w.lit);
        int[] other = allTruths(w, !w.lit);
        int[] best = null;
        for (int d : descriptions(w)) {
            boolean may = told(now, in, d) == c && (!anyLight || told(other, in, d) == c);
            for (int i = 0; i < w.words.size(); i++) {
                if (soundOnly && !w.words.get(i).sound && ((d >> i) % 2 == 1 || (d >> i + 10) % 2 == 1)) {
                    may = false;
                }
            }
            if (may && (best == null || costs(w, d) < best[1])) {
                best = new int[] {d, costs(w, d)};
            }
        }
        return best;
    }

    // ---- needs

    private void needChest(int c) {
        if (c < 0 || c >= world.chests.size()) {
            throw new NoSuchElementException();
        }
    }

    private void needIn(int c) {
        needChest(c);
        if (!world.in.get(c)) {
            throw new IllegalStateException();
        }
    }

    private void needMark(int m) {
        if (m < 0 || m >= world.marks) {
            throw new NoSuchElementException();
        }
    }

    private void needDescription(int d) {
        if (d < 0 || d >= 1 << 20 || !descriptions(world).contains(d)) {
            throw new IllegalArgumentException();
        }
    }

    private static void needArgument(boolean right) {
        if (!right) {
            throw new IllegalArgumentException();
        }
    }

    private void needTray(int t) {
        if (t < 0 || t > 3) {
            throw new NoSuchElementException();
        }
    }

    private void needFilled(int t) {
        needTray(t);
        if (trays[t] == null) {
            throw new IllegalStateException();
        }
    }

    // ---- the face

    public int feed(int a, int b, int c, int d, int e) {
        if (tape.size() > 880) {
            return -1;
        }
        for (int x : new int[] {a, b, c, d, e}) {
            for (byte y : java.nio.ByteBuffer.allocate(4).putInt(x).array()) {
                tape.add(y & 255);
            }
        }
        return tape.size();
    }

    public int hall(int n) {
        needArgument(n >= 0 && n <= tape.size());
        int[] bytes = new int[n];
        for (int i = 0; i < n; i++) {
            bytes[i] = tape.get(i);
        }
        tape.clear();
        List<Tok> toks = tokens(bytes);
        int[] found = firstFault(toks);
        fault = found == null ? 0 : found[0];
        place = found == null ? -1 : found[1];
        if (found != null) {
            return -10 - fault;
        }
        world = build(toks);
        past = new ArrayList<>();
        return world.lines;
    }

    public int fault(int what) {
        return what == 0 ? fault : what == 1 ? place : -1;
    }

    public int mark(int c, int m, boolean looks) {
        needChest(c);
        needMark(m);
        return looks(world, c, looks && world.lit)[m];
    }

    public int chest(int c, int what) {
        needChest(c);
        needArgument(what >= 0 && what <= 2);
        int[] truths = allTruths(world, world.lit);
        if (what == 0) {
            return world.in.get(c) ? 1 : 0;
        }
        if (what == 1) {
            return truths[c];
        }
        int many = 0;
        for (int d = 0; d < truths.length; d++) {
            if (d != c && world.in.get(d) && truths[d] == truths[c]) {
                many++;
            }
        }
        return many;
    }

    public int word(int w, int what) {
        if (w < 0 || w >= world.words.size()) {
            throw new NoSuchElementException();
        }
        needArgument(what >= 0 && what <= 3);
        switch (what) {
            case 0:
                return world.words.get(w).cost;
            case 1:
                return world.words.get(w).sound ? 1 : 0;
            case 2:
                return world.used.contains(w) ? 1 : 0;
            default:
                return fitting(allTruths(world, world.lit), inBits(world), 1 << w);
        }
    }

    public boolean holds(int w, int c, boolean lamp) {
        if (w < 0 || w >= world.words.size()) {
            throw new NoSuchElementException();
        }
        needChest(c);
        return world.words.get(w).truth.test(new Seen(looks(world, c, lamp), c));
    }

    public int fits(int d) {
        needDescription(d);
        return fitting(allTruths(world, world.lit), inBits(world), d);
    }

    public int tells(int d) {
        needDescription(d);
        return told(d);
    }

    public int cost(int d) {
        needDescription(d);
        return costs(world, d);
    }

    private int first(int[] found) {
        return found == null ? -1 : found[0];
    }

    public int least(int c) {
        needIn(c);
        return first(leastOf(world, inBits(world), c, false, false));
    }

    public int blind(int c) {
        needIn(c);
        return first(leastOf(world, inBits(world), c, true, false));
    }

    public int sure(int c) {
        needIn(c);
        return first(leastOf(world, inBits(world), c, false, true));
    }

    public int price(int c) {
        needIn(c);
        int[] found = leastOf(world, inBits(world), c, false, false);
        return found == null ? -1 : found[1];
    }

    public int hardest() {
        int best = -1;
        int most = -1;
        for (int c = 0; c < world.chests.size(); c++) {
            if (world.in.get(c)) {
                int p = price(c);
                int hard = p == -1 ? 1000000 : p;
                if (hard > most) {
                    most = hard;
                    best = c;
                }
            }
        }
        return best;
    }

    public int ways(int c) {
        needIn(c);
        int[] truths = allTruths(world, world.lit);
        int many = 0;
        for (int d : descriptions(world)) {
            if (told(truths, inBits(world), d) == c) {
                many++;
            }
        }
        return many;
    }

    public int rank(int d) {
        needDescription(d);
        int c = told(d);
        if (c < 0) {
            return -1;
        }
        int[] truths = allTruths(world, world.lit);
        int many = 0;
        for (int e : descriptions(world)) {
            if (costs(world, e) < costs(world, d) && told(truths, inBits(world), e) == c) {
                many++;
            }
        }
        return many;
    }

    public int shorter(int d) {
        needDescription(d);
        int[] truths = allTruths(world, world.lit);
        int in = inBits(world);
        int left = d;
        for (int bit = 19; bit >= 0; bit--) {
            if ((left >> bit) % 2 == 1 && fitting(truths, in, left - (1 << bit)) == fitting(truths, in, d)) {
                left -= 1 << bit;
            }
        }
        return left;
    }

    private void deed() {
        past.add(world.twin());
        if (past.size() > 10) {
            past.remove(0);
        }
    }

    public int claim(int p, int d) {
        if (p < 0 || p >= world.people) {
            throw new NoSuchElementException();
        }
        if (world.stake < 0) {
            throw new IllegalStateException();
        }
        needDescription(d);
        deed();
        world.claims[p] = d;
        return told(d) == world.stake ? 1 : 0;
    }

    private static int winner(World w) {
        int best = -1;
        int[] truths = allTruths(w, w.lit);
        for (int p = w.people - 1; p >= 0; p--) {
            if (w.stake >= 0 && w.claims[p] != null && told(truths, inBits(w), w.claims[p]) == w.stake
                    && (best < 0 || costs(w, w.claims[p]) <= costs(w, w.claims[best]))) {
                best = p;
            }
        }
        return best;
    }

    private static int settle(World w) {
        int p = winner(w);
        if (p >= 0) {
            w.wins[p]++;
            w.in.set(w.stake, false);
            for (int i = 0; i < 20; i++) {
                if ((w.claims[p] >> i) % 2 == 1) {
                    w.used.add(i % 10);
                }
            }
        }
        w.claims = new Integer[6];
        int many = w.chests.size();
        int next = -1;
        for (int k = 1; k <= many && next < 0; k++) {
            int c = (w.stake + k) % many;
            if (w.in.get(c)) {
                next = c;
            }
        }
        w.stake = next;
        return p;
    }

    private static void carry(World w, int c) {
        w.in.set(c, !w.in.get(c));
        if (w.stake < 0 || !w.in.get(w.stake)) {
            w.stake = w.in.indexOf(true);
            w.claims = new Integer[6];
        }
    }

    public int settle() {
        if (world.stake < 0) {
            throw new IllegalStateException();
        }
        deed();
        return settle(world);
    }

    public int lamp() {
        deed();
        world.lit = !world.lit;
        return world.lit ? 1 : 0;
    }

    public int carry(int c) {
        needChest(c);
        deed();
        carry(world, c);
        return world.in.get(c) ? 1 : 0;
    }

    public int change(int c, int m, int v) {
        needChest(c);
        needMark(m);
        needArgument(v >= 0 && v <= 9);
        deed();
        int was = world.chests.get(c)[m];
        world.chests.get(c)[m] = v;
        return was;
    }

    public int stake(int c) {
        needIn(c);
        deed();
        int was = world.stake;
        world.stake = c;
        world.claims = new Integer[6];
        return was;
    }

    public int person(int p, int what) {
        if (p < 0 || p >= world.people) {
            throw new NoSuchElementException();
        }
        needArgument(what == 0 || what == 1);
        return what == 1 ? world.wins[p] : world.claims[p] == null ? -1 : world.claims[p];
    }

    public int winner() {
        return winner(world);
    }

    public int undo(int n) {
        needArgument(n >= 1 && n <= 10 && n <= past.size());
        for (int i = 0; i < n; i++) {
            world = past.remove(past.size() - 1);
        }
        return past.size();
    }

    private static boolean doTold(World w, long v) {
        int chests = w.chests.size();
        if (v >= 0 && v <= 1399 && v / 100 < chests && v / 10 % 10 < w.marks) {
            w.chests.get((int) v / 100)[(int) v / 10 % 10] = (int) v % 10;
            return true;
        }
        if (v >= 2000 && v <= 2013 && v - 2000 < chests) {
            carry(w, (int) v - 2000);
            return true;
        }
        if (v == 3000) {
            w.lit = !w.lit;
            return true;
        }
        if (v == -1 && w.stake >= 0) {
            settle(w);
            return true;
        }
        return false;
    }

    public int judge(int tray, int what) {
        needFilled(tray);
        needArgument(what >= 0 && what <= 3);
        World w = world.twin();
        int i = 0;
        while (i < trays[tray].length && doTold(w, trays[tray][i])) {
            i++;
        }
        boolean all = i == trays[tray].length;
        switch (what) {
            case 0:
                return all ? -1 : i;
            case 1:
                return all ? 0 : 1;
            case 2:
                return inBits(w);
            default:
                return w.stake;
        }
    }

    public int perform(int tray) {
        needFilled(tray);
        int done = 0;
        for (long v : trays[tray]) {
            if (!doTold(world.twin(), v)) {
                break;
            }
            deed();
            doTold(world, v);
            done++;
        }
        return done;
    }

    private int x;

    private int draw() {
        x = 1103515245 * x + 12345;
        return x >>> 16;
    }

    public int night(int seed, int times) {
        needArgument(times >= 1 && times <= 30);
        if (world.chests.isEmpty()) {
            throw new IllegalStateException();
        }
        x = seed;
        for (int i = 0; i < times; i++) {
            deed();
            switch (draw() % 3) {
                case 0:
                    world.lit = !world.lit;
                    break;
                case 1:
                    int c = draw() % world.chests.size();
                    int m = draw() % world.marks;
                    world.chests.get(c)[m] = draw() % 10;
                    break;
                default:
                    carry(world, draw() % world.chests.size());
            }
        }
        return times;
    }

    public int hardened(int c, int n) {
        needIn(c);
        int in = inBits(world);
        int out = (1 << world.chests.size()) - 1 - in;
        if (Integer.bitCount(out) > 6) {
            throw new IllegalStateException();
        }
        needArgument(n >= 1 && n <= 99);
        for (int many = 0; many <= 6; many++) {
            for (int set = 0; set < 1 << 14; set++) {
                if ((set & ~out) == 0 && Integer.bitCount(set) == many) {
                    int[] found = leastOf(world, in | set, c, false, false);
                    if (found == null || found[1] >= n) {
                        return set;
                    }
                }
            }
        }
        return -1;
    }

    public int book() {
        int[] truths = allTruths(world, world.lit);
        for (int many = 0; many <= world.words.size(); many++) {
            for (int set = 0; set < 1 << world.words.size(); set++) {
                if (Integer.bitCount(set) == many && allDiffer(truths, set)) {
                    return set;
                }
            }
        }
        return -1;
    }

    private boolean allDiffer(int[] truths, int set) {
        Set<Integer> seen = new HashSet<>();
        for (int c = 0; c < truths.length; c++) {
            if (world.in.get(c) && !seen.add(truths[c] & set)) {
                return false;
            }
        }
        return true;
    }

    /** Whether so many questions do for a set. */
    private boolean enough(int[] truths, List<Integer> set, int many) {
        if (set.size() < 2) {
            return true;
        }
        if (many == 0 || set.size() > 1 << many) {
            return false;
        }
        for (int w = 0; w < world.words.size(); w++) {
            if (enoughBehind(truths, set, many, w)) {
                return true;
            }
        }
        return false;
    }

    private boolean enoughBehind(int[] truths, List<Integer> set, int many, int w) {
        List<Integer> yes = new ArrayList<>();
        List<Integer> no = new ArrayList<>();
        for (int c : set) {
            ((truths[c] >> w) % 2 == 1 ? yes : no).add(c);
        }
        return !yes.isEmpty() && !no.isEmpty() && enough(truths, yes, many - 1) && enough(truths, no, many - 1);
    }

    public int asking(int what) {
        needArgument(what == 0 || what == 1);
        int[] truths = allTruths(world, world.lit);
        if (!allDiffer(truths, 1023)) {
            return -1;
        }
        List<Integer> all = new ArrayList<>();
        for (int c = 0; c < truths.length; c++) {
            if (world.in.get(c)) {
                all.add(c);
            }
        }
        int many = 0;
        while (!enough(truths, all, many)) {
            many++;
        }
        if (what == 0) {
            return many;
        }
        for (int w = 0; w < world.words.size(); w++) {
            if (enoughBehind(truths, all, many, w)) {
                return w;
            }
        }
        return -1;
    }

    public int fresh(int c, int what) {
        needChest(c);
        needArgument(what == 0 || what >= 10 && what <= 15);
        int[] base = looks(world, c, world.lit);
        Set<Integer> taken = new HashSet<>();
        int[] truths = allTruths(world, world.lit);
        for (int d = 0; d < truths.length; d++) {
            if (world.in.get(d)) {
                taken.add(truths[d]);
            }
        }
        int all = 1;
        for (int m = 0; m < world.marks; m++) {
            all *= 10;
        }
        int[] best = null;
        int fewest = 4;
        for (int k = 0; k < all; k++) {
            int[] row = new int[world.marks];
            int changes = 0;
            int rest = k;
            for (int m = world.marks - 1; m >= 0; m--) {
                row[m] = rest % 10;
                rest /= 10;
                changes += row[m] == base[m] ? 0 : 1;
            }
            if (changes < fewest && !taken.contains(truths(world, new Seen(row, -1)))) {
                fewest = changes;
                best = row;
            }
        }
        if (best == null) {
            return -1;
        }
        return what == 0 ? fewest : what - 10 < world.marks ? best[what - 10] : -1;
    }

    public int twins() {
        int bits = 0;
        for (int c = 0; c < world.chests.size(); c++) {
            if (world.in.get(c) && chest(c, 2) > 0) {
                bits += 1 << c;
            }
        }
        return bits;
    }

    public int parts() {
        int best = -1;
        int least = 100;
        for (int w = 0; w < world.words.size(); w++) {
            int yes = Integer.bitCount(word(w, 3));
            int no = Integer.bitCount(inBits(world)) - yes;
            if (Math.max(yes, no) < least) {
                least = Math.max(yes, no);
                best = w;
            }
        }
        return best;
    }

    public int idle() {
        int bits = 0;
        for (int w = 0; w < world.words.size(); w++) {
            int yes = Integer.bitCount(word(w, 3));
            if (yes == 0 || yes == Integer.bitCount(inBits(world))) {
                bits += 1 << w;
            }
        }
        return bits;
    }

    public int nearest(int c) {
        needChest(c);
        int best = -1;
        int most = -1;
        for (int d = 0; d < world.chests.size(); d++) {
            if (d != c && world.in.get(d)) {
                int same = world.words.size() - Integer.bitCount(differ(c, d));
                if (same > most) {
                    most = same;
                    best = d;
                }
            }
        }
        return best;
    }

    public int differ(int c, int d) {
        needChest(c);
        needChest(d);
        return truths(world, c, world.lit) ^ truths(world, d, world.lit);
    }

    public int common(int set) {
        needArgument(set > 0 && (set | inBits(world)) == inBits(world));
        int d = 0;
        for (int w = 0; w < world.words.size(); w++) {
            int yes = word(w, 3) & set;
            if (yes == set) {
                d += 1 << w;
            } else if (yes == 0) {
                d += 1 << w + 10;
            }
        }
        return d;
    }

    public int changing() {
        int bits = 0;
        for (int c = 0; c < world.chests.size(); c++) {
            if (truths(world, c, true) != truths(world, c, false)) {
                bits += 1 << c;
            }
        }
        return bits;
    }

    public int greedy(int c) {
        needIn(c);
        int[] truths = allTruths(world, world.lit);
        int in = inBits(world);
        int d = 0;
        while (told(truths, in, d) < 0) {
            int best = 0;
            int[] bestKey = null;
            for (int w = 0; w < world.words.size(); w++) {
                int one = (truths[c] >> w) % 2 == 1 ? 1 << w : 1 << w + 10;
                int[] key = {Integer.bitCount(fitting(truths, in, d | one)), costs(world, one), w};
                if (key[0] < Integer.bitCount(fitting(truths, in, d))
                        && (bestKey == null || Arrays.compare(key, bestKey) < 0)) {
                    best = one;
                    bestKey = key;
                }
            }
            if (bestKey == null) {
                return -1;
            }
            d |= best;
        }
        return d;
    }

    public void tray(int tray, int sort, int many) {
        needTray(tray);
        needArgument(sort >= 0 && sort <= 3 && many >= 0 && many <= 30);
        trays[tray] = new long[many];
        sorts[tray] = sort;
    }

    public long write(int tray, int at, long v) {
        needFilled(tray);
        if (at < 0 || at >= trays[tray].length) {
            throw new IndexOutOfBoundsException();
        }
        int unused = 64 - (8 << sorts[tray]);
        trays[tray][at] = v << unused >> unused;
        return trays[tray][at];
    }

    public int copy(int tray) {
        needFilled(tray);
        int many = 0;
        for (int c = 0; c < world.chests.size(); c++) {
            if (world.in.get(c) && many < trays[tray].length) {
                trays[tray][many++] = c;
            }
        }
        return many;
    }

    public void image(int i) {
        if (i < 0 || i > 2) {
            throw new NoSuchElementException();
        }
        imageWorlds[i] = world.twin();
        List<World> kept = new ArrayList<>();
        for (World w : past) {
            kept.add(w.twin());
        }
        imagePasts.set(i, kept);
    }

    public void restore(int i) {
        if (i < 0 || i > 2) {
            throw new NoSuchElementException();
        }
        if (imageWorlds[i] == null) {
            throw new IllegalStateException();
        }
        world = imageWorlds[i].twin();
        past = new ArrayList<>();
        for (World w : imagePasts.get(i)) {
            past.add(w.twin());
        }
    }

    public int count(int what) {
        int claims = 0;
        for (Integer d : world.claims) {
            claims += d == null ? 0 : 1;
        }
        int[] all = {world.lines, world.marks, world.chests.size(), Integer.bitCount(inBits(world)),
            world.words.size(), world.used.size(), world.people, world.stake, world.lit ? 1 : 0, claims,
            world.hire, past.size(), tape.size()};
        return what >= 0 && what < all.length ? all[what] : -1;
    }
}
