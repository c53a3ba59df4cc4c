import java.util.NoSuchElementException;
import java.util.function.Consumer;

/** Promise by promise: each call that is refused throws what it must and changes nothing; so does no question. */
public final class RefusalTests {
    private static final Class<NoSuchElementException> NO_SUCH = NoSuchElementException.class;
    private static final Class<IllegalStateException> STATE = IllegalStateException.class;
    private static final Class<IllegalArgumentException> ARGUMENT = IllegalArgumentException.class;
    private static final Class<IndexOutOfBoundsException> PLACE = IndexOutOfBoundsException.class;
    private static final Hands hands = new Hands();

    private static final int LOW = Integer.MIN_VALUE;
    private static final int HIGH = Integer.MAX_VALUE;
    /** Start.FULL has CHESTS 0 to 4, WORDS 0 to 2, MARKS 0 and 1, PEOPLE 0 to 2. */
    private static final int[] NO_CHESTS = {LOW, -1, 5, 13, 14, 31, 32, 33, HIGH};
    private static final int[] NO_WORDS = {LOW, -1, 3, 9, 10, 32, HIGH};
    private static final int[] NO_MARKS = {LOW, -1, 2, 5, 6, HIGH};
    private static final int[] NO_PEOPLE = {LOW, -1, 3, 5, 6, HIGH};
    private static final int[] NO_TRAYS = {LOW, -1, 4, HIGH};
    private static final int[] NO_IMAGES = {LOW, -1, 3, HIGH};
    /** One WORD too many, the bits behind all WORDS, the sign, one both said and denied. */
    private static final int[] NO_DESCRIPTIONS = {LOW, -1, HIGH, 1 << 3, 1 << 9, 1 << 13, 1 << 19, 1 << 20, 1 << 30,
        LOW | 1, 1 | 1 << 10, 2 | 1 << 11, 4 | 1 << 12, 7 | 7 << 10};
    /** Those that are OUT. */
    private static final int[] OUT = {0, 3};

    private interface Refused {
        void call(LeastWords x, int wrong);
    }

    public static void main(String[] args) {
        tape();
        marksChestsWords();
        descriptions();
        chestsOut();
        deeds();
        noStake();
        undo();
        toldDeeds();
        nights();
        hardened();
        seeking();
        trays();
        images();
        firstToldFirst();
        questions();
        hands.end();
    }

    private static void each(int promise, String what, Class<? extends RuntimeException> want, int[] wrong,
            Refused refused) {
        for (int w : wrong) {
            refuse(promise, what + ": " + w, want, x -> refused.call(x, w));
        }
    }

    private static void refuse(int promise, String what, Class<? extends RuntimeException> want,
            Consumer<LeastWords> call) {
        hands.refused(promise, what, want, Start.FULL, call);
    }

    private static void tape() {
        each(3, "hall of n", ARGUMENT, new int[] {LOW, -1, 41, 900, 901, HIGH}, (x, n) -> x.hall(n));
        hands.refused(3, "hall(1) of an empty tape", ARGUMENT, Start.NEW, x -> x.hall(1));
        hands.refused(3, "hall(-1) of an empty tape", ARGUMENT, Start.NEW, x -> x.hall(-1));
        Start whole = new Start(() -> {
            LeastWords x = Start.FULL.made.get();
            for (int i = 2; i < 45; i++) {
                x.feed(0x20202020, 0x20202020, 0x20202020, 0x20202020, 0x20202020);
            }
            return x;
        });
        hands.due(2, "a whole tape", whole.made.get().count(12), 900);
        hands.refused(3, "hall(901) of a whole tape", ARGUMENT, whole, x -> x.hall(901));
        hands.due(2, "a feed too many", whole.made.get().feed(1, 2, 3, 4, 5), -1);
        hands.unchanged(2, "a feed too many", whole, x -> x.feed(1, 2, 3, 4, 5));
    }

    private static void marksChestsWords() {
        for (boolean flag : new boolean[] {false, true}) {
            each(5, "mark of a chest", NO_SUCH, NO_CHESTS, (x, c) -> x.mark(c, 0, flag));
            each(5, "mark", NO_SUCH, NO_MARKS, (x, m) -> x.mark(4, m, flag));
            each(8, "holds, word", NO_SUCH, NO_WORDS, (x, w) -> x.holds(w, 0, flag));
            each(8, "holds, chest", NO_SUCH, NO_CHESTS, (x, c) -> x.holds(0, c, flag));
            hands.refused(5, "mark of no chests", NO_SUCH, Start.NEW, x -> x.mark(0, 0, flag));
            hands.refused(8, "holds of no words", NO_SUCH, Start.NEW, x -> x.holds(0, 0, flag));
        }
        each(6, "chest", NO_SUCH, NO_CHESTS, (x, c) -> x.chest(c, 0));
        each(6, "chest, what", ARGUMENT, new int[] {LOW, -1, 3, HIGH}, (x, what) -> x.chest(3, what));
        hands.refused(6, "chest of no chests", NO_SUCH, Start.NEW, x -> x.chest(0, 0));
        each(7, "word", NO_SUCH, NO_WORDS, (x, w) -> x.word(w, 0));
        each(7, "word, what", ARGUMENT, new int[] {LOW, -1, 4, HIGH}, (x, what) -> x.word(2, what));
        hands.refused(7, "word of no words", NO_SUCH, Start.NEW, x -> x.word(0, 0));
    }

    private static void descriptions() {
        each(9, "fits", ARGUMENT, NO_DESCRIPTIONS, (x, d) -> x.fits(d));
        each(10, "tells", ARGUMENT, NO_DESCRIPTIONS, (x, d) -> x.tells(d));
        each(11, "cost", ARGUMENT, NO_DESCRIPTIONS, (x, d) -> x.cost(d));
        each(18, "rank", ARGUMENT, NO_DESCRIPTIONS, (x, d) -> x.rank(d));
        each(19, "shorter", ARGUMENT, NO_DESCRIPTIONS, (x, d) -> x.shorter(d));
        for (int d : new int[] {1, 1 << 10, 1 << 20, -1}) {
            hands.refused(9, "fits of no words", ARGUMENT, Start.NEW, x -> x.fits(d));
            hands.refused(10, "tells of no words", ARGUMENT, Start.NEW, x -> x.tells(d));
            hands.refused(11, "cost of no words", ARGUMENT, Start.NEW, x -> x.cost(d));
            hands.refused(18, "rank of no words", ARGUMENT, Start.NEW, x -> x.rank(d));
            hands.refused(19, "shorter of no words", ARGUMENT, Start.NEW, x -> x.shorter(d));
        }
    }

    private static void chestsOut() {
        chestIn(12, "least", (x, c) -> x.least(c));
        chestIn(13, "blind", (x, c) -> x.blind(c));
        chestIn(14, "sure", (x, c) -> x.sure(c));
        chestIn(15, "price", (x, c) -> x.price(c));
        chestIn(17, "ways", (x, c) -> x.ways(c));
        chestIn(25, "stake", (x, c) -> x.stake(c));
        chestIn(32, "hardened", (x, c) -> x.hardened(c, 1));
        chestIn(43, "greedy", (x, c) -> x.greedy(c));
    }

    private static void chestIn(int promise, String what, Refused refused) {
        each(promise, what, NO_SUCH, NO_CHESTS, refused);
        each(promise, what, STATE, OUT, refused);
        hands.refused(promise, what + ", none is in", STATE, Start.BARE, x -> refused.call(x, 0));
        hands.refused(promise, what + ", no chests", NO_SUCH, Start.NEW, x -> refused.call(x, 0));
    }

    private static void deeds() {
        each(20, "claim of a person", NO_SUCH, NO_PEOPLE, (x, p) -> x.claim(p, 0));
        each(20, "claim", ARGUMENT, NO_DESCRIPTIONS, (x, d) -> x.claim(2, d));
        each(23, "carry", NO_SUCH, NO_CHESTS, (x, c) -> x.carry(c));
        hands.refused(23, "carry, no chests", NO_SUCH, Start.NEW, x -> x.carry(0));
        each(24, "change of a chest", NO_SUCH, NO_CHESTS, (x, c) -> x.change(c, 0, 5));
        each(24, "change of a mark", NO_SUCH, NO_MARKS, (x, m) -> x.change(1, m, 5));
        each(24, "change to v", ARGUMENT, new int[] {LOW, -1, 10, 16, HIGH}, (x, v) -> x.change(1, 1, v));
        hands.refused(24, "change, no chests", NO_SUCH, Start.NEW, x -> x.change(0, 0, 0));
        each(26, "person", NO_SUCH, NO_PEOPLE, (x, p) -> x.person(p, 1));
        each(26, "person, what", ARGUMENT, new int[] {LOW, -1, 2, HIGH}, (x, what) -> x.person(2, what));
        hands.refused(26, "the third of two", NO_SUCH, Start.NEW, x -> x.person(2, 0));
    }

    private static void noStake() {
        for (Start start : new Start[] {Start.BARE, Start.NEW}) {
            hands.refused(20, "claim without a stake", STATE, start, x -> x.claim(1, 0));
            hands.refused(20, "no such person, no stake", NO_SUCH, start, x -> x.claim(2, 0));
            hands.refused(21, "settle without a stake", STATE, start, x -> x.settle());
        }
    }

    private static void undo() {
        each(28, "nine can be undone", ARGUMENT, new int[] {LOW, -1, 0, 10, 11, HIGH}, (x, n) -> x.undo(n));
        hands.refused(28, "two can be undone", ARGUMENT, Start.BARE, x -> x.undo(3));
        hands.refused(28, "none can be undone", ARGUMENT, Start.NEW, x -> x.undo(1));
        hands.refused(28, "none can be undone", ARGUMENT, Start.NEW, x -> x.undo(0));
        Start ten = new Start(() -> {
            LeastWords x = Start.FULL.made.get();
            x.lamp();
            x.carry(0);
            return x;
        });
        hands.due(28, "eleven deeds, of which ten can be undone", ten.made.get().count(11), 10);
        hands.refused(28, "eleven", ARGUMENT, ten, x -> x.undo(11));
        hands.refused(28, "none", ARGUMENT, ten, x -> x.undo(0));
    }

    private static void toldDeeds() {
        each(29, "judge", NO_SUCH, NO_TRAYS, (x, t) -> x.judge(t, 0));
        each(29, "judge, what", ARGUMENT, new int[] {LOW, -1, 4, HIGH}, (x, what) -> x.judge(0, what));
        each(30, "perform", NO_SUCH, NO_TRAYS, (x, t) -> x.perform(t));
        refuse(29, "judge of what is missing", STATE, x -> x.judge(2, 0));
        refuse(30, "perform of what is missing", STATE, x -> x.perform(2));
        Start none = new Start(() -> {
            LeastWords x = Start.FULL.made.get();
            Hands.fill(x, 2, 2, 1400, 3000);
            return x;
        });
        hands.due(30, "the first told can't be", none.made.get().perform(2), 0);
        hands.unchanged(30, "the first told can't be", none, x -> x.perform(2));
    }

    private static void nights() {
        each(31, "night, times", ARGUMENT, new int[] {LOW, -1, 0, 31, HIGH}, (x, times) -> x.night(7, times));
        for (int times : new int[] {LOW, 0, 31}) {
            hands.refused(31, "no chests, " + times + " times", ARGUMENT, Start.NEW, x -> x.night(7, times));
        }
        hands.refused(31, "no chests, once", STATE, Start.NEW, x -> x.night(7, 1));
        hands.refused(31, "no chests, 30 times", STATE, Start.NEW, x -> x.night(7, 30));
    }

    private static void hardened() {
        each(32, "hardened, n", ARGUMENT, new int[] {LOW, -1, 0, 100, HIGH}, (x, n) -> x.hardened(1, n));
        Start crowded = new Start(() -> {
            LeastWords x = Hands.opened("marks 1;chest 1;" + "spare 2;".repeat(7) + "word:m 0=1;");
            x.lamp();
            return x;
        });
        hands.refused(32, "seven are out", STATE, crowded, x -> x.hardened(0, 1));
        hands.refused(32, "seven are out, n is wrong", STATE, crowded, x -> x.hardened(0, 0));
        hands.refused(32, "seven are out, of one of them", STATE, crowded, x -> x.hardened(7, 1));
        hands.refused(32, "seven are out, of none", NO_SUCH, crowded, x -> x.hardened(8, 1));
    }

    private static void seeking() {
        each(34, "asking", ARGUMENT, new int[] {LOW, -1, 2, HIGH}, (x, what) -> x.asking(what));
        hands.refused(34, "asking of none", ARGUMENT, Start.NEW, x -> x.asking(2));
        each(35, "fresh", NO_SUCH, NO_CHESTS, (x, c) -> x.fresh(c, 0));
        each(35, "fresh, what", ARGUMENT, new int[] {LOW, -1, 1, 9, 16, HIGH}, (x, what) -> x.fresh(1, what));
        hands.refused(35, "fresh of none", NO_SUCH, Start.NEW, x -> x.fresh(0, 0));
        each(39, "nearest", NO_SUCH, NO_CHESTS, (x, c) -> x.nearest(c));
        hands.refused(39, "nearest of none", NO_SUCH, Start.NEW, x -> x.nearest(0));
        each(40, "differ, the first", NO_SUCH, NO_CHESTS, (x, c) -> x.differ(c, 0));
        each(40, "differ, the second", NO_SUCH, NO_CHESTS, (x, c) -> x.differ(0, c));
        hands.refused(40, "differ of none", NO_SUCH, Start.NEW, x -> x.differ(0, 0));
        // IN are 1, 2 and 4
        each(41, "common", ARGUMENT, new int[] {0, 1, 8, 2 | 1, 22 | 8, 32, 2 | 32, 2 | 1 << 14, LOW, LOW | 2, -1, HIGH},
            (x, set) -> x.common(set));
        hands.refused(41, "common, none is in", ARGUMENT, Start.BARE, x -> x.common(1));
        hands.refused(41, "common of none", ARGUMENT, Start.NEW, x -> x.common(0));
        hands.refused(41, "common, no chests", ARGUMENT, Start.NEW, x -> x.common(1));
    }

    private static void trays() {
        each(44, "tray", NO_SUCH, NO_TRAYS, (x, t) -> x.tray(t, 0, 1));
        each(44, "tray, sort", ARGUMENT, new int[] {LOW, -1, 4, HIGH}, (x, sort) -> x.tray(0, sort, 1));
        each(44, "tray, many", ARGUMENT, new int[] {LOW, -1, 31, HIGH}, (x, many) -> x.tray(0, 0, many));
        each(44, "tray that is missing", ARGUMENT, new int[] {LOW, -1, 31, HIGH}, (x, many) -> x.tray(2, 3, many));
        each(45, "write", NO_SUCH, NO_TRAYS, (x, t) -> x.write(t, 0, 1));
        refuse(45, "write, missing", STATE, x -> x.write(2, 0, 1));
        each(45, "write to a place of six", PLACE, new int[] {LOW, -1, 6, 30, HIGH}, (x, at) -> x.write(0, at, 3000));
        each(45, "write to a place of thirty", PLACE, new int[] {LOW, -1, 30, HIGH}, (x, at) -> x.write(3, at, 1));
        Start none = new Start(() -> {
            LeastWords x = Start.BARE.made.get();
            x.tray(0, 2, 0);
            return x;
        });
        hands.refused(45, "write to a place of none", PLACE, none, x -> x.write(0, 0, 1));
        each(46, "copy", NO_SUCH, NO_TRAYS, (x, t) -> x.copy(t));
        refuse(46, "copy, missing", STATE, x -> x.copy(2));
        hands.refused(46, "copy, missing", STATE, Start.NEW, x -> x.copy(0));
    }

    private static void images() {
        each(47, "image", NO_SUCH, NO_IMAGES, (x, i) -> x.image(i));
        each(48, "restore", NO_SUCH, NO_IMAGES, (x, i) -> x.restore(i));
        refuse(48, "restore of none that was made", STATE, x -> x.restore(1));
        for (int i = 0; i < 3; i++) {
            int image = i;
            hands.refused(48, "restore of a new object", STATE, Start.NEW, x -> x.restore(image));
        }
    }

    /** Of several throws of a call that one comes that is told first. */
    private static void firstToldFirst() {
        refuse(5, "no chest, no mark", NO_SUCH, x -> x.mark(5, 2, true));
        refuse(6, "no chest, no what", NO_SUCH, x -> x.chest(5, 3));
        refuse(7, "no word, no what", NO_SUCH, x -> x.word(3, 4));
        refuse(20, "no person, no description", NO_SUCH, x -> x.claim(3, -1));
        hands.refused(20, "no person, no stake, no description", NO_SUCH, Start.BARE, x -> x.claim(2, -1));
        hands.refused(20, "no stake, no description", STATE, Start.BARE, x -> x.claim(1, -1));
        refuse(24, "no chest, no v", NO_SUCH, x -> x.change(5, 0, 10));
        refuse(24, "no mark, no v", NO_SUCH, x -> x.change(0, 2, 10));
        refuse(26, "no person, no what", NO_SUCH, x -> x.person(3, 2));
        refuse(29, "no tray, no what", NO_SUCH, x -> x.judge(4, 4));
        refuse(29, "missing, no what", STATE, x -> x.judge(2, 4));
        refuse(32, "no chest, no n", NO_SUCH, x -> x.hardened(5, 0));
        refuse(32, "out, no n", STATE, x -> x.hardened(3, 0));
        refuse(35, "no chest, no what", NO_SUCH, x -> x.fresh(5, 1));
        refuse(44, "no tray, no sort, not so many", NO_SUCH, x -> x.tray(4, 4, 31));
        refuse(45, "no tray, no place", NO_SUCH, x -> x.write(-1, -1, 0));
        refuse(45, "missing, no place", STATE, x -> x.write(2, -1, 0));
    }

    private static void questions() {
        asks(4, "fault", x -> x.fault(0) + x.fault(1) + x.fault(2));
        asks(5, "mark", x -> x.mark(4, 1, true) + x.mark(3, 0, false));
        asks(6, "chest", x -> x.chest(0, 0) + x.chest(1, 1) + x.chest(2, 2));
        asks(7, "word", x -> x.word(0, 0) + x.word(0, 1) + x.word(1, 2) + x.word(2, 3));
        asks(8, "holds", x -> x.holds(0, 4, true) || x.holds(2, 0, false) ? 1 : 0);
        asks(9, "fits", x -> x.fits(4));
        asks(10, "tells", x -> x.tells(6));
        asks(11, "cost", x -> x.cost(1 | 1 << 11));
        asks(12, "least", x -> x.least(2));
        asks(13, "blind", x -> x.blind(2));
        asks(14, "sure", x -> x.sure(1));
        asks(15, "price", x -> x.price(4));
        asks(16, "hardest", x -> x.hardest());
        asks(17, "ways", x -> x.ways(1));
        asks(18, "rank", x -> x.rank(6));
        asks(19, "shorter", x -> x.shorter(6));
        asks(26, "person", x -> x.person(2, 0) + x.person(2, 1));
        asks(27, "winner", x -> x.winner());
        asks(29, "judge", x -> x.judge(0, 0) + x.judge(0, 1) + x.judge(0, 2) + x.judge(1, 3));
        asks(32, "hardened", x -> x.hardened(1, 5) + x.hardened(2, 99));
        asks(33, "book", x -> x.book());
        asks(34, "asking", x -> x.asking(0) + x.asking(1));
        asks(35, "fresh", x -> x.fresh(1, 0) + x.fresh(4, 11) + x.fresh(0, 15));
        asks(36, "twins", x -> x.twins());
        asks(37, "parts", x -> x.parts());
        asks(38, "idle", x -> x.idle());
        asks(39, "nearest", x -> x.nearest(1));
        asks(40, "differ", x -> x.differ(1, 3));
        asks(41, "common", x -> x.common(22));
        asks(42, "changing", x -> x.changing());
        asks(43, "greedy", x -> x.greedy(4));
        asks(49, "count", x -> x.count(0) + x.count(7) + x.count(12) + x.count(13));
    }

    private interface Question {
        int ask(LeastWords x);
    }

    private static void asks(int promise, String what, Question question) {
        hands.unchanged(promise, what, Start.FULL, x -> question.ask(x));
    }
}
