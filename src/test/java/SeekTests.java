import java.util.NoSuchElementException;

/** Promises 32 to 43: hardened, book, asking, fresh, twins, parts, idle, nearest, differ, common, changing, greedy. */
public final class SeekTests {
    private static final Class<NoSuchElementException> NO_SUCH = NoSuchElementException.class;
    private static final Class<IllegalStateException> STATE = IllegalStateException.class;
    private static final Class<IllegalArgumentException> ARGUMENT = IllegalArgumentException.class;
    private static final Hands hands = new Hands();
    private static final int NOT_0 = 1 << 10;
    private static final int NOT_1 = 1 << 11;
    private static final int NOT_2 = 1 << 12;

    public static void main(String[] args) {
        hardened();
        book();
        asking();
        askingAtWorst();
        fresh();
        freshOnes();
        twinsPartsIdle();
        nearestDiffer();
        common();
        changing();
        greedy();
        hands.end();
    }

    private static void hardened() {
        // chest 0: 0 1; 1: none; out: 2 has 0, 3 has 1, 4 as 0, 5 has 0
        LeastWords x = Hands.opened("marks 2;chest 1 1;chest 0 0;spare 1 0;spare 0 1;spare 1 1;spare 1 0;"
            + "word cost 2:m 0=1;word cost 3:m 1=1;");
        hands.due(32, "it costs 2 as it is", x.hardened(0, 2), 0);
        hands.due(32, "word 1 must be said: chest 2, not chest 5", x.hardened(0, 3), 1 << 2);
        hands.due(32, "one that is alike, rather than two", x.hardened(0, 4), 1 << 4);
        hands.due(32, "none tells it: so hard as can be", x.hardened(0, 99), 1 << 4);
        hands.due(32, "chest 1: not 0 costs 3", x.hardened(1, 3), 0);
        hands.due(32, "chest 1: both denied", x.hardened(1, 5), 12);
        hands.due(32, "chest 1: not by any", x.hardened(1, 8), -1);
        hands.due(32, "nothing is brought in", x.count(3), 2);
        hands.thrown(32, "it is out", STATE, () -> x.hardened(2, 0));
        hands.thrown(32, "no such chest", NO_SUCH, () -> x.hardened(6, 0));
        hands.thrown(32, "n 0", ARGUMENT, () -> x.hardened(0, 0));
        hands.thrown(32, "n 100", ARGUMENT, () -> x.hardened(0, 100));
        x.carry(4);
        hands.due(32, "already none tells it", x.hardened(0, 99), 0);
        String seven = "marks 1;chest 1;" + "spare 2;".repeat(7);
        hands.thrown(32, "seven are out", STATE, () -> Hands.opened(seven).hardened(0, 0));
        LeastWords six = Hands.opened(seven);
        six.carry(7);
        hands.due(32, "six are out", six.hardened(0, 1), 0);
        LeastWords high = Hands.opened("marks 1;" + "spare 2;".repeat(3) + "chest 1;chest 9;spare 1;word:m 0=1;");
        hands.due(32, "the one that is alike is the last", high.hardened(3, 99), 1 << 5);
    }

    private static void book() {
        hands.due(33, "one chest", Hands.opened("marks 1;chest 1;word:1=1;").book(), 0);
        hands.due(33, "none", Hands.opened("marks 1;spare 1;").book(), 0);
        hands.due(33, "two without words", Hands.opened("marks 1;chest 1;chest 2;").book(), -1);
        LeastWords x = Hands.opened("marks 3;chest 0 0 1;chest 0 1 1;chest 1 0 0;spare 1 1 0;word:m 0=1;word:m 1=1;"
            + "word:m 2=1;word:1=1;");
        hands.due(33, "of like ones the least", x.book(), 3);
        x.carry(1);
        hands.due(33, "one does", x.book(), 1);
        x.carry(0);
        x.carry(3);
        hands.due(33, "word 1 alone", x.book(), 2);
        x.change(3, 1, 0);
        hands.due(33, "alike", x.book(), -1);
        x.carry(2);
        hands.due(33, "alone", x.book(), 0);
        // the fewest, not the least as bits: words 0, 1, 2 each show one chest, words 3 and 4 part all
        LeastWords y = Hands.opened("marks 1;chest 0;chest 1;chest 2;chest 3;word:m 0=1;word:m 0=2;word:m 0=3;"
            + "word:m 0>1;word:m 0=1 or m 0=3;");
        hands.due(33, "the fewest", y.book(), 24);
    }

    private static void asking() {
        LeastWords x = Hands.opened("marks 1;chest 0;chest 1;chest 2;chest 3;chest 4;word:m 0=0;word:m 0=1;word:m 0=2;"
            + "word:m 0=3;");
        hands.due(34, "one by one", x.asking(0), 4);
        hands.due(34, "any first: the first", x.asking(1), 0);
        x.carry(0);
        hands.due(34, "one fewer", x.asking(0), 3);
        hands.due(34, "word 0 parts nothing", x.asking(1), 1);
        LeastWords y = Hands.opened("marks 1;chest 0;chest 1;chest 2;chest 3;word:m 0=0;word:m 0>1;word:m 0=1 or m 0=3;");
        hands.due(34, "by halves", y.asking(0), 2);
        hands.due(34, "the first that halves", y.asking(1), 1);
        y.change(0, 0, 3);
        hands.due(34, "alike", y.asking(0), -1);
        hands.due(34, "alike", y.asking(1), -1);
        hands.thrown(34, "asking(2)", ARGUMENT, () -> y.asking(2));
        hands.thrown(34, "asking(-1)", ARGUMENT, () -> y.asking(-1));
        LeastWords one = Hands.opened("marks 1;chest 0;word:m 0=0;");
        hands.due(34, "one", one.asking(0), 0);
        hands.due(34, "one", one.asking(1), -1);
        // the second question depends on the first answer: 2 though the book needs 3 words
        LeastWords z = Hands.opened("marks 2;chest 0 0;chest 0 1;chest 1 0;chest 1 1;word:m 0=1;word:m 0=0 and m 1=1;"
            + "word:m 0=1 and m 1=1;");
        hands.due(34, "by what was answered", z.asking(0), 2);
        hands.due(33, "three words", z.book(), 7);
    }

    /** Eleven chests with a word each but one, and fourteen that ten words part. */
    private static void askingAtWorst() {
        StringBuilder text = new StringBuilder("marks 2;");
        for (int c = 0; c < 11; c++) {
            text.append("chest ").append(c / 10).append(' ').append(c % 10).append(';');
        }
        for (int w = 0; w < 10; w++) {
            text.append("word:m 0*10+m 1=").append(w).append(';');
        }
        LeastWords x = Hands.opened(text.toString());
        hands.due(34, "ten questions", x.asking(0), 10);
        hands.due(34, "the first", x.asking(1), 0);
        hands.due(33, "ten words", x.book(), 1023);
        StringBuilder fourteen = new StringBuilder("marks 1;" + "chest 1;".repeat(14));
        for (int w = 0; w < 6; w++) {
            fourteen.append("word:number=").append(w).append(';');
        }
        for (int shift = 8; shift > 0; shift /= 2) {
            fourteen.append("word:");
            String or = "";
            for (int n = shift; n < 14; n += 2 * shift) {
                fourteen.append(or).append("number>").append(n - 1).append(" and number<").append(n + shift);
                or = " or ";
            }
            fourteen.append(';');
        }
        LeastWords y = Hands.opened(fourteen.toString());
        hands.due(34, "four questions", y.asking(0), 4);
        hands.due(34, "by a bit", y.asking(1), 6);
        hands.due(33, "four bits", y.book(), 15 << 6);
    }

    private static void fresh() {
        LeastWords x = Hands.opened("marks 2;chest 1 1;chest 0 1;chest 1 0;spare 0 0;word:m 0=1;word:m 1=1;");
        hands.due(35, "two marks", x.fresh(0, 0), 2);
        hands.due(35, "mark 0", x.fresh(0, 10), 0);
        hands.due(35, "mark 1", x.fresh(0, 11), 0);
        hands.due(35, "one mark", x.fresh(1, 0), 1);
        hands.due(35, "mark 0 stays", x.fresh(1, 10), 0);
        hands.due(35, "mark 1", x.fresh(1, 11), 0);
        hands.due(35, "a spare one is new", x.fresh(3, 0), 0);
        x.change(3, 1, 7);
        hands.due(35, "as it is", x.fresh(3, 11), 7);
        hands.due(35, "no such mark", x.fresh(0, 12), -1);
        hands.due(35, "no such mark", x.fresh(0, 15), -1);
        x.carry(3);
        hands.due(35, "there is none", x.fresh(0, 0), -1);
        hands.due(35, "there is none", x.fresh(0, 10), -1);
        hands.thrown(35, "fresh(4, 1)", NO_SUCH, () -> x.fresh(4, 1));
        hands.thrown(35, "fresh(-1, 0)", NO_SUCH, () -> x.fresh(-1, 0));
        for (int what : new int[] {-1, 1, 9, 16, Integer.MIN_VALUE, Integer.MAX_VALUE}) {
            hands.thrown(35, "fresh(0, " + what + ")", ARGUMENT, () -> x.fresh(0, what));
        }
    }

    private static void fresh(String what, String text, long... due) {
        LeastWords x = Hands.opened(text);
        hands.due(35, what, x.fresh(0, 0), due[0]);
        for (int m = 1; m < due.length; m++) {
            hands.due(35, what + ", mark " + (m - 1), x.fresh(0, 9 + m), due[m]);
        }
    }

    private static void freshOnes() {
        fresh("number -1", "marks 1;chest 1;word:number<0;", 0, 1);
        fresh("number of the chest is not asked", "marks 1;chest 5;word:number=0;", 0, 5);
        fresh("no words: alike in any case", "marks 1;chest 5;", -1, -1);
        fresh("nobody is in", "marks 1;spare 5;", 0, 5);
        fresh("the first by what marks are", "marks 3;chest 5 5 5;word:sum>15;", 1, 5, 5, 6);
        fresh("below it", "marks 3;chest 5 5 5;word:sum<15;", 1, 0, 5, 5);
        fresh("three", "marks 4;chest 0 0 0 0;word:sum>26;", 3, 0, 9, 9, 9);
        fresh("four are too many", "marks 4;chest 0 0 0 0;word:sum>27;", -1, -1);
        fresh("a mark that no word reads stays", "marks 3;chest 5 5 5;word:m 1=3;", 1, 5, 3, 5);
        fresh("six marks", "marks 6;chest 9 9 9 9 9 9;word:alike<5;", 3, 0, 0, 1, 9, 9, 9);
        LeastWords x = Hands.opened("marks 2;chest 1 1;chest 2 2;word:m 0=1;word:m 0=7;lamp 0 1 2;lamp 0 7 3;");
        hands.due(35, "by day", x.fresh(0, 10), 7);
        hands.due(35, "by day", x.fresh(1, 10), 7);
        x.lamp();
        hands.due(35, "as they look: by lamp both look 2", x.fresh(0, 0), 1);
        hands.due(35, "the mark, as it looks", x.fresh(0, 10), 1);
        hands.due(35, "the other", x.fresh(0, 11), 1);
        x.change(1, 0, 1);
        x.change(1, 1, 6);
        hands.due(35, "from how it looks", x.fresh(1, 11), 6);
    }

    private static void twinsPartsIdle() {
        LeastWords x = Hands.opened("marks 1;chest 1;chest 2;chest 3;chest 1;spare 2;word:m 0>0;word:m 0=1;word:m 0<3;"
            + "word:m 0=9;lamp 0 3 2;");
        hands.due(36, "two", x.twins(), 9);
        hands.due(37, "by halves", x.parts(), 1);
        hands.due(38, "for all, for none", x.idle(), 9);
        x.lamp();
        hands.due(36, "by lamp", x.twins(), 15);
        hands.due(37, "by lamp", x.parts(), 1);
        hands.due(38, "by lamp", x.idle(), 13);
        x.lamp();
        x.carry(4);
        hands.due(36, "with the spare one", x.twins(), 27);
        x.carry(0);
        x.carry(3);
        hands.due(37, "2 3 2: the first of like ones", x.parts(), 2);
        hands.due(38, "2 3 2", x.idle(), 11);
        hands.due(36, "2 3 2", x.twins(), 18);
        hands.due(36, "without words", Hands.opened("marks 1;chest 1;chest 2;spare 1;").twins(), 3);
        hands.due(37, "without words", Hands.opened("marks 1;chest 1;").parts(), -1);
        LeastWords none = Hands.opened("marks 1;spare 1;word:1=1;word:1=2;");
        hands.due(36, "none in", none.twins(), 0);
        hands.due(37, "none in", none.parts(), 0);
        hands.due(38, "none in", none.idle(), 3);
    }

    private static void nearestDiffer() {
        LeastWords x = Hands.opened("marks 1;chest 1;chest 5;chest 3;chest 4;spare 2;word:m 0>1;word:m 0>2;word:m 0>3;"
            + "word:m 0>4;lamp 0 5 1;");
        hands.due(39, "of 1: 3", x.nearest(0), 2);
        hands.due(39, "of 3: 4", x.nearest(2), 3);
        hands.due(39, "of 4: 5 and 3, the first", x.nearest(3), 1);
        hands.due(39, "of one that is out: 1 and 3", x.nearest(4), 0);
        hands.due(40, "1 and 5", x.differ(0, 1), 15);
        hands.due(40, "3 and 2", x.differ(2, 4), 2);
        hands.due(40, "2 and 3", x.differ(4, 2), 2);
        hands.due(40, "the same", x.differ(3, 3), 0);
        x.lamp();
        hands.due(40, "by lamp", x.differ(0, 1), 0);
        hands.due(39, "by lamp", x.nearest(0), 1);
        hands.thrown(39, "nearest(5)", NO_SUCH, () -> x.nearest(5));
        hands.thrown(39, "nearest(-1)", NO_SUCH, () -> x.nearest(-1));
        hands.thrown(40, "differ(5, 0)", NO_SUCH, () -> x.differ(5, 0));
        hands.thrown(40, "differ(0, 5)", NO_SUCH, () -> x.differ(0, 5));
        hands.due(39, "no other", Hands.opened("marks 1;chest 1;spare 2;").nearest(0), -1);
        hands.due(39, "no words", Hands.opened("marks 1;spare 1;chest 2;").nearest(0), 1);
    }

    private static void common() {
        LeastWords x = Hands.opened("marks 1;chest 1;chest 2;chest 3;spare 4;word:m 0=1;word:m 0<3;word:m 0=9;");
        hands.due(41, "one", x.common(1), 3 | NOT_2);
        hands.due(41, "two", x.common(3), 2 | NOT_2);
        hands.due(41, "two others", x.common(6), NOT_0 | NOT_2);
        hands.due(41, "all", x.common(7), NOT_2);
        hands.thrown(41, "none", ARGUMENT, () -> x.common(0));
        hands.thrown(41, "one that is out", ARGUMENT, () -> x.common(9));
        hands.thrown(41, "no such chest", ARGUMENT, () -> x.common(1 << 4));
        hands.thrown(41, "far beyond", ARGUMENT, () -> x.common(1 << 31 | 1));
        hands.thrown(41, "NONE", ARGUMENT, () -> x.common(-1));
        hands.due(41, "no words", Hands.opened("marks 1;chest 1;").common(1), 0);
    }

    private static void changing() {
        LeastWords x = Hands.opened("marks 1;chest 1;chest 2;spare 3;chest 4;chest 5;word:m 0<3;word:m 0=8;lamp 0 1 2;"
            + "lamp 0 2 9;lamp 0 3 1;lamp 0 4 8;");
        hands.due(42, "those that lose, those that win, spare ones too", x.changing(), 14);
        x.lamp();
        hands.due(42, "by lamp the same", x.changing(), 14);
        x.change(4, 0, 2);
        hands.due(42, "changed", x.changing(), 30);
        hands.due(42, "none", new LeastWords().changing(), 0);
    }

    private static void greedy() {
        // for chest 0: word 0 leaves 0 1, not 1 leaves 0 1 2, word 2 leaves 0 3
        LeastWords x = Hands.opened("marks 3;chest 1 0 1;chest 1 0 0;chest 0 0 0;chest 0 1 1;"
            + "word cost 5:m 0=1;word:m 1=1;word cost 4:m 2=1;");
        hands.due(43, "of like ones the cheapest, word 2; then not 1 is the cheaper", x.greedy(0), 4 | NOT_1);
        hands.due(43, "one that tells at once", x.greedy(3), 2);
        hands.due(43, "chest 1", x.greedy(1), 1 | NOT_2);
        hands.due(43, "chest 2: not 0 and not 2 leave two; not 2 first", x.greedy(2), NOT_0 | NOT_2);
        hands.thrown(43, "greedy(4)", NO_SUCH, () -> x.greedy(4));
        x.carry(3);
        hands.thrown(43, "it is out", STATE, () -> x.greedy(3));
        hands.due(43, "word 2 at once", x.greedy(0), 4);
        x.change(1, 2, 1);
        hands.due(43, "alike: never", x.greedy(0), -1);
        hands.due(43, "alone", Hands.opened("marks 1;chest 1;word:1=1;").greedy(0), 0);
        // the fewest left first, though dearer; then the first word of like cost
        LeastWords y = Hands.opened("marks 1;chest 1;chest 2;chest 3;chest 4;word:m 0<4;word cost 9:m 0<3;word cost 9:m 0<3;"
            + "word:m 0=1 or m 0>2;");
        hands.due(43, "not the least: the first of 2 words and word 3", y.greedy(0), 2 | 8);
        hands.due(12, "the least", y.least(0), 10);
        LeastWords used = Hands.opened("marks 1;chest 1;chest 2;spare 3;word:m 0=1;word cost 2:m 0<2;hire 3;");
        hands.due(43, "the cheaper", used.greedy(0), 1);
        used.claim(0, 1);
        used.settle();
        used.carry(0);
        hands.due(43, "hired: the other", used.greedy(0), 2);
        hands.due(43, "denied costs one more, as both do", used.greedy(1), NOT_1);
    }
}
