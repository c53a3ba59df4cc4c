import java.util.HashMap;
import java.util.Map;
import java.util.NoSuchElementException;
import java.util.Random;

/** Promises 32 to 43 at their bounds: none IN and all IN, no WORDS and ten, the first and the last, one beyond. */
public final class SeekEdges {
    private static final Class<NoSuchElementException> NO_SUCH = NoSuchElementException.class;
    private static final Class<IllegalStateException> STATE = IllegalStateException.class;
    private static final Class<IllegalArgumentException> ARGUMENT = IllegalArgumentException.class;
    private static final Hands hands = new Hands();
    private static final int LOW = Integer.MIN_VALUE;
    private static final int HIGH = Integer.MAX_VALUE;
    private static final int ALL = 1023;
    private static final int FOURTEEN = 0x3fff;

    public static void main(String[] args) {
        hardenedBounds();
        hardenedBySix();
        hardenedLikeOnes();
        hardenedByOne();
        book();
        asking();
        askingTen();
        askingOfTables();
        eachTwoAlike();
        freshBounds();
        freshNumbers();
        freshByAtoms();
        freshThree();
        freshFirst();
        freshLamp();
        twins();
        parts();
        idle();
        nearest();
        differ();
        common();
        changing();
        greedy();
        hands.end();
    }

    /** Each of so many CHESTS but the first lacks one WORD that holds for the first. */
    private static String eachLacksOne(String first, String others, int many) {
        StringBuilder text = new StringBuilder("marks 1;" + first + " 1;" + (others + " 1;").repeat(many));
        for (int c = 1; c <= many; c++) {
            text.append("word:not number=").append(c).append(';');
        }
        return text.toString();
    }

    private static void hardenedBounds() {
        LeastWords x = Hands.opened("marks 1;chest 1;chest 2;word cost 9:m 0=1;hire 9;");
        hands.due(32, "n 1", x.hardened(0, 1), 0);
        hands.due(32, "n just what it costs", x.hardened(0, 9), 0);
        hands.due(32, "n one more", x.hardened(0, 10), -1);
        hands.due(32, "denied", x.hardened(1, 10), 0);
        hands.due(32, "n 99", x.hardened(0, 99), -1);
        for (int n : new int[] {LOW, -1, 0, 100, HIGH}) {
            hands.thrown(32, "n " + n, ARGUMENT, () -> x.hardened(0, n));
        }
        for (int c : new int[] {LOW, -1, 2, 14, HIGH}) {
            hands.thrown(32, "hardened(" + c + ")", NO_SUCH, () -> x.hardened(c, 1));
        }
        hands.due(32, "alone, none is out: it costs nothing", Hands.opened("marks 1;chest 1;").hardened(0, 1), -1);
        hands.due(32, "alone without words, one is out", Hands.opened("marks 1;chest 1;spare 1;").hardened(0, 99), 2);
        // what is USED is dearer: 9 and 9
        x.claim(0, 1);
        x.settle();
        x.carry(0);
        hands.due(32, "hired", x.hardened(0, 18), 0);
        hands.due(32, "hired, one more", x.hardened(0, 19), -1);
    }

    private static void hardenedBySix() {
        LeastWords x = Hands.opened(eachLacksOne("chest", "spare", 6));
        hands.due(32, "one of six", x.hardened(0, 1), 0b10);
        hands.due(32, "two of six", x.hardened(0, 2), 0b110);
        hands.due(32, "three of six", x.hardened(0, 3), 0b1110);
        hands.due(32, "five of six", x.hardened(0, 5), 0b111110);
        hands.due(32, "all six", x.hardened(0, 6), 0b1111110);
        hands.due(32, "not by any", x.hardened(0, 7), -1);
        x.carry(3);
        hands.due(32, "one is in already", x.hardened(0, 1), 0);
        hands.due(32, "and one more", x.hardened(0, 2), 0b10);
        hands.due(32, "all five", x.hardened(0, 6), 0b1110110);
        LeastWords seven = Hands.opened(eachLacksOne("chest", "spare", 7));
        for (int n : new int[] {1, 7, 99}) {
            hands.thrown(32, "seven are out", STATE, () -> seven.hardened(0, n));
        }
        hands.thrown(32, "seven are out, n 0", STATE, () -> seven.hardened(0, 0));
        hands.thrown(32, "seven are out, one of these", STATE, () -> seven.hardened(1, 1));
        hands.thrown(32, "seven are out, none of them", NO_SUCH, () -> seven.hardened(8, 1));
        seven.carry(7);
        hands.due(32, "six are out", seven.hardened(0, 7), 0b1111110);
        seven.carry(7);
        hands.thrown(32, "seven again", STATE, () -> seven.hardened(0, 1));
    }

    private static void hardenedLikeOnes() {
        // the last six of fourteen are out, and all are like one another but the first and the last
        LeastWords x = Hands.opened("marks 1;chest 1;" + "chest 2;".repeat(7) + "spare 2;".repeat(5) + "spare 1;word:m 0=1;");
        hands.due(32, "the last of fourteen", x.hardened(0, 99), 1 << 13);
        hands.due(32, "none is needed", x.hardened(0, 1), 0);
        hands.due(32, "alike already", x.hardened(7, 99), 0);
        x.change(9, 0, 1);
        hands.due(32, "of two like ones the least", x.hardened(0, 99), 1 << 9);
        // fewer rather than less: 1 and 2 together are less than 3 alone
        LeastWords y = Hands.opened("marks 2;chest 1 1;spare 1 2;spare 2 1;spare 1 1;word:m 0=1;word:m 1=1;");
        hands.due(32, "one of all words rather than two", y.hardened(0, 2), 8);
        y.change(3, 0, 2);
        y.change(3, 1, 2);
        hands.due(32, "two of one word", y.hardened(0, 2), 6);
    }

    private static void hardenedByOne() {
        // word 1 tells it from chest 1, word 0 from chest 2, word 2 at 3 from both
        LeastWords x = Hands.opened("marks 2;chest 1 1;spare 1 0;spare 0 1;word:m 0=1;word:m 1=1;word cost 3:sum>1;");
        hands.due(32, "one", x.hardened(0, 1), 2);
        hands.due(32, "two", x.hardened(0, 2), 6);
        hands.due(32, "both words at 2 rather than one at 3", x.hardened(0, 3), -1);
        // it must be IN the hall itself, by lamp as it is then
        x.lamp();
        hands.thrown(32, "one that would be brought in", STATE, () -> x.hardened(1, 1));
        LeastWords lamp = Hands.opened("marks 1;chest 1;spare 2;word:m 0=1;lamp 0 2 1;");
        hands.due(32, "by day", lamp.hardened(0, 99), -1);
        lamp.lamp();
        hands.due(32, "by lamp", lamp.hardened(0, 99), 2);
    }

    private static void book() {
        hands.due(33, "no chests", new LeastWords().book(), 0);
        hands.due(33, "none is in", Hands.opened("marks 1;spare 1;spare 1;word:1=1;").book(), 0);
        hands.due(33, "one is in", Hands.opened("marks 1;chest 1;spare 1;").book(), 0);
        hands.due(33, "two, no words", Hands.opened("marks 1;chest 1;chest 2;").book(), -1);
        hands.due(33, "two, by the last of ten", Hands.opened("marks 1;chest 1;chest 2;" + "word:m 0=3;".repeat(9)
            + "word:m 0=1;").book(), 1 << 9);
        hands.due(33, "two, by any of ten: the least", Hands.opened("marks 1;chest 1;chest 2;" + "word:m 0=1;".repeat(10))
            .book(), 1);
        LeastWords x = Hands.opened(eachLacksOne("chest", "chest", 10));
        hands.due(33, "all ten", x.book(), ALL);
        x.carry(10);
        hands.due(33, "all but the last", x.book(), ALL >> 1);
        x.carry(1);
        hands.due(33, "all but the first and the last", x.book(), ALL >> 1 & ~1);
        LeastWords y = Hands.opened("marks 1;" + "chest 1;".repeat(14) + "word:number=13;word:1=1;");
        hands.due(33, "fourteen, some alike", y.book(), -1);
        for (int c = 0; c < 12; c++) {
            y.carry(c);
        }
        hands.due(33, "the last two", y.book(), 1);
        LeastWords lamp = Hands.opened("marks 1;chest 1;chest 2;word:m 0=1;lamp 0 2 1;");
        hands.due(33, "by day", lamp.book(), 1);
        lamp.lamp();
        hands.due(33, "by lamp", lamp.book(), -1);
    }

    private static void asking() {
        LeastWords none = new LeastWords();
        hands.due(34, "no chests", none.asking(0), 0);
        hands.due(34, "no chests", none.asking(1), -1);
        LeastWords one = Hands.opened("marks 1;spare 1;chest 1;word:number=1;");
        hands.due(34, "one is in", one.asking(0), 0);
        hands.due(34, "one is in", one.asking(1), -1);
        one.carry(0);
        hands.due(34, "two", one.asking(0), 1);
        hands.due(34, "two", one.asking(1), 0);
        one.carry(0);
        one.carry(1);
        hands.due(34, "none is in", one.asking(0), 0);
        hands.due(34, "none is in", one.asking(1), -1);
        LeastWords alike = Hands.opened("marks 1;chest 1;chest 2;");
        hands.due(34, "two, no words", alike.asking(0), -1);
        hands.due(34, "two, no words", alike.asking(1), -1);
        LeastWords last = Hands.opened("marks 1;" + "spare 1;".repeat(12) + "chest 1;chest 2;" + "word:1=1;".repeat(9)
            + "word:m 0=1;");
        hands.due(34, "the last two by the last word", last.asking(0), 1);
        hands.due(34, "the last word", last.asking(1), 9);
        for (int what : new int[] {LOW, -1, 2, HIGH}) {
            hands.thrown(34, "what " + what, ARGUMENT, () -> last.asking(what));
        }
        LeastWords lamp = Hands.opened("marks 1;chest 1;chest 2;word:m 0=1;lamp 0 2 1;");
        hands.due(34, "by day", lamp.asking(0), 1);
        lamp.lamp();
        hands.due(34, "by lamp", lamp.asking(0), -1);
        hands.due(34, "by lamp, the first", lamp.asking(1), -1);
    }

    private static void askingTen() {
        LeastWords x = Hands.opened(eachLacksOne("chest", "chest", 10));
        for (int many = 10; many > 0; many--) {
            hands.due(34, "of " + (many + 1), x.asking(0), many);
            hands.due(34, "the first that still parts", x.asking(1), 10 - many);
            x.carry(11 - many);
        }
        hands.due(34, "of one", x.asking(0), 0);
        // four chests: words 1 and 2 part by halves; word 0 first needs three
        LeastWords y = Hands.opened("marks 1;" + "chest 1;".repeat(4) + "word:number=0;word:number<2;word:number=0 or number=2;");
        hands.due(34, "two do", y.asking(0), 2);
        hands.due(34, "not by the first", y.asking(1), 1);
        // five chests need three at worst, and by word 0 that can be
        LeastWords z = Hands.opened("marks 1;" + "chest 1;".repeat(5) + "word:number=4;word:number<2;word:number=0 or number=2;");
        hands.due(34, "three", z.asking(0), 3);
        hands.due(34, "the first", z.asking(1), 0);
    }

    /** Tables of CHESTS for which WORDS hold, by fixed seeds: asked for once more by trying all WORDS. */
    private static void askingOfTables() {
        for (int seed = 1; seed <= 3000; seed++) {
            Random random = new Random(seed);
            int chests = 5 + random.nextInt(10);
            int[] holders = new int[3 + random.nextInt(5)];
            int rare = 2 + random.nextInt(4);
            StringBuilder text = new StringBuilder("marks 1;" + "chest 1;".repeat(chests));
            for (int w = 0; w < holders.length; w++) {
                text.append("word:1=2");
                for (int c = 0; c < chests; c++) {
                    if (random.nextInt(rare) == 0) {
                        holders[w] |= 1 << c;
                        text.append(" or number=").append(c);
                    }
                }
                text.append(';');
            }
            if (text.length() <= 900) {
                askedAgain("seed " + seed, Hands.opened(text.toString()), holders, (1 << chests) - 1);
            }
        }
    }

    private static void askedAgain(String of, LeastWords x, int[] holders, int all) {
        Map<Integer, Integer> known = new HashMap<>();
        int fewest = fewest(all, holders, known);
        int first = -1;
        for (int w = holders.length - 1; w >= 0; w--) {
            int yes = all & holders[w];
            if (fewest > 0 && yes != 0 && yes != all
                    && 1 + Math.max(fewest(yes, holders, known), fewest(all & ~yes, holders, known)) == fewest) {
                first = w;
            }
        }
        hands.due(34, of, x.asking(0), fewest == 99 ? -1 : fewest);
        hands.due(34, of + ", the first", x.asking(1), fewest == 99 ? -1 : first);
    }

    /** 99: some two of the set are alike. */
    private static int fewest(int set, int[] holders, Map<Integer, Integer> known) {
        if (Integer.bitCount(set) == 1) {
            return 0;
        }
        if (!known.containsKey(set)) {
            int best = 99;
            for (int holding : holders) {
                int yes = set & holding;
                if (yes != 0 && yes != set) {
                    best = Math.min(best, 1 + Math.max(fewest(yes, holders, known), fewest(set & ~yes, holders, known)));
                }
            }
            known.put(set, best);
        }
        return known.get(set);
    }

    /** Fourteen that four WORDS part, and then each two of them made alike. */
    private static void eachTwoAlike() {
        StringBuilder text = new StringBuilder("marks 4;");
        for (int c = 0; c < 14; c++) {
            text.append("chest");
            for (int m = 0; m < 4; m++) {
                text.append(' ').append(c >> m & 1);
            }
            text.append(';');
        }
        text.append("word:m 0=1;word:m 1=1;word:m 2=1;word:m 3=1;");
        LeastWords all = Hands.opened(text.toString());
        hands.due(33, "four words", all.book(), 15);
        hands.due(34, "four questions", all.asking(0), 4);
        hands.due(34, "by any: the first", all.asking(1), 0);
        hands.due(36, "none are alike", all.twins(), 0);
        for (int c = 0; c < 14; c++) {
            for (int d = c + 1; d < 14; d++) {
                LeastWords x = Hands.opened(text.toString());
                for (int m = 0; m < 4; m++) {
                    x.change(d, m, c >> m & 1);
                }
                String of = c + " and " + d + " alike";
                hands.due(33, of, x.book(), -1);
                hands.due(34, of, x.asking(0), -1);
                hands.due(34, of + ", the first", x.asking(1), -1);
                hands.due(36, of, x.twins(), 1 << c | 1 << d);
                hands.due(12, of, x.least(d), -1);
                hands.due(16, of, x.hardest(), c);
                hands.due(43, of, x.greedy(c), -1);
                hands.due(39, of, x.nearest(d), c);
                hands.due(40, of, x.differ(d, c), 0);
            }
        }
    }

    private static void freshBounds() {
        LeastWords x = Hands.opened("marks 1;chest 1;word:m 0=1;");
        for (int what : new int[] {0, 10, 11, 12, 13, 14, 15}) {
            hands.due(35, "what " + what, x.fresh(0, what), what == 0 ? 1 : what == 10 ? 0 : -1);
        }
        for (int what : new int[] {LOW, -1, 1, 2, 9, 16, 17, HIGH}) {
            hands.thrown(35, "what " + what, ARGUMENT, () -> x.fresh(0, what));
        }
        for (int c : new int[] {LOW, -1, 1, 14, HIGH}) {
            hands.thrown(35, "fresh(" + c + ")", NO_SUCH, () -> x.fresh(c, 0));
        }
        LeastWords six = Hands.opened("marks 6;" + "spare 1 2 3 4 5 6;".repeat(13) + "chest 1 2 3 4 5 6;word:m 5=6;");
        hands.due(35, "of the last of fourteen", six.fresh(13, 0), 1);
        for (int m = 0; m < 5; m++) {
            hands.due(35, "marks that stay", six.fresh(13, 10 + m), m + 1);
        }
        hands.due(35, "the last mark of six", six.fresh(13, 15), 0);
        hands.due(35, "of one that is out, like one in", six.fresh(0, 0), 1);
        hands.thrown(35, "of no fifteenth", NO_SUCH, () -> six.fresh(14, 0));
        six.carry(13);
        hands.due(35, "none is in: none changed", six.fresh(13, 0), 0);
        hands.due(35, "none is in: as it is", six.fresh(13, 15), 6);
        LeastWords none = Hands.opened("marks 2;chest 1 1;");
        hands.due(35, "there is none", none.fresh(0, 0), -1);
        hands.due(35, "there is none, mark 0", none.fresh(0, 10), -1);
        hands.due(35, "there is none, no such mark", none.fresh(0, 15), -1);
    }

    private static void freshNumbers() {
        LeastWords high = Hands.opened("marks 1;chest 0;word:m 0=9;");
        hands.due(35, "from 0 to 9", high.fresh(0, 10), 9);
        LeastWords low = Hands.opened("marks 1;chest 9;word:m 0=0;");
        hands.due(35, "from 9 to 0", low.fresh(0, 10), 0);
        LeastWords beyond = Hands.opened("marks 1;chest 5;word:m 0>9;word:m 0<0;");
        hands.due(35, "10 and -1 are none", beyond.fresh(0, 0), -1);
        hands.due(35, "number -1", Hands.opened("marks 1;chest 5;word:number=0-1;").fresh(0, 0), 0);
        hands.due(35, "not its own", Hands.opened("marks 1;chest 5;word:number=0;").fresh(0, 0), 0);
        hands.due(35, "nor the next", Hands.opened("marks 1;chest 5;word:number>0;").fresh(0, 0), -1);
        // all but one of ten words are as for the one that is in
        LeastWords ten = Hands.opened("marks 1;chest 5;" + "word:m 0<9;".repeat(9) + "word:m 0=7;");
        hands.due(35, "by the last word", ten.fresh(0, 10), 7);
        // nine numbers are taken by chests in the hall
        StringBuilder text = new StringBuilder("marks 1;");
        for (int v = 0; v < 9; v++) {
            text.append("chest ").append(v).append(";word:m 0=").append(v).append(';');
        }
        LeastWords nine = Hands.opened(text + "spare 9;");
        hands.due(35, "the only one that is left", nine.fresh(0, 10), 9);
        hands.due(35, "it is so already", nine.fresh(9, 0), 0);
        nine.carry(9);
        hands.due(35, "none is left", nine.fresh(0, 0), -1);
    }

    /** What a WORD asks for by has, sum and alike can be the first MARK's doing or the last's. */
    private static void freshByAtoms() {
        String[] asks = {"has 7=1", "has 3=1", "sum=17", "sum=13", "alike=1", "alike<3", "has 5=0", "m 0+m 2=8", "m 2=3"};
        long[][] due = {{5, 5, 7}, {3, 5, 5}, {5, 5, 7}, {3, 5, 5}, {0, 5, 5}, {0, 5, 5}, {0, 0, 0}, {3, 5, 5}, {5, 5, 3}};
        for (int i = 0; i < asks.length; i++) {
            LeastWords x = Hands.opened("marks 3;chest 5 5 5;word:" + asks[i] + ";");
            for (int m = 0; m < 3; m++) {
                hands.due(35, asks[i] + ", mark " + m, x.fresh(0, 10 + m), due[i][m]);
            }
        }
        hands.due(35, "the only mark", Hands.opened("marks 1;chest 5;word:has 3=1;").fresh(0, 10), 3);
        LeastWords six = Hands.opened("marks 6;chest 4 3 2 1 0 9;word:alike=1;word:has 9=1 and m 5<9;");
        hands.due(35, "alike by one mark", six.fresh(0, 0), 1);
        hands.due(35, "mark 0 first", six.fresh(0, 10), 0);
        LeastWords last = Hands.opened("marks 6;chest 0 0 0 0 0 1;word:alike=15;");
        hands.due(35, "alike by the last mark", last.fresh(0, 15), 0);
        hands.due(35, "by one mark", last.fresh(0, 0), 1);
        LeastWords first = Hands.opened("marks 6;chest 1 0 0 0 0 0;word:alike=15;");
        hands.due(35, "alike by the first mark", first.fresh(0, 10), 0);
    }

    private static void freshThree() {
        LeastWords two = Hands.opened("marks 6;chest 0 0 0 0 0 0;word:sum=18;");
        hands.due(35, "two", two.fresh(0, 0), 2);
        LeastWords three = Hands.opened("marks 6;chest 0 0 0 0 0 0;word:sum=27;");
        hands.due(35, "three", three.fresh(0, 0), 3);
        for (int m = 0; m < 6; m++) {
            hands.due(35, "the last three, mark " + m, three.fresh(0, 10 + m), m < 3 ? 0 : 9);
        }
        LeastWords four = Hands.opened("marks 6;chest 0 0 0 0 0 0;word:sum=28;");
        hands.due(35, "four are too many", four.fresh(0, 0), -1);
        hands.due(35, "four are too many", four.fresh(0, 15), -1);
        LeastWords each = Hands.opened("marks 3;chest 1 1 1;word:m 0=2 and m 1=2 and m 2=2;");
        hands.due(35, "all three marks", each.fresh(0, 0), 3);
        LeastWords all = Hands.opened("marks 4;chest 1 1 1 1;word:m 0=2 and m 1=2 and m 2=2 and m 3=2;");
        hands.due(35, "all four marks", all.fresh(0, 0), -1);
    }

    private static void freshFirst() {
        // of one changed mark: mark 0 lower is ahead of all, then a later mark, then mark 0 higher
        String sum = "marks 3;chest 5 5 5;word:sum=";
        long[][] due = {{14, 4, 5, 5}, {16, 5, 5, 6}, {10, 0, 5, 5}, {19, 5, 5, 9}, {9, 0, 4, 5}, {20, 5, 6, 9}, {0, 0, 0, 0},
            {27, 9, 9, 9}, {24, 6, 9, 9}};
        for (long[] row : due) {
            LeastWords x = Hands.opened(sum + row[0] + ";");
            for (int m = 0; m < 3; m++) {
                hands.due(35, "sum " + row[0] + ", mark " + m, x.fresh(0, 10 + m), row[m + 1]);
            }
        }
        LeastWords x = Hands.opened("marks 2;chest 5 5;word:m 0=7;word:m 1=3;");
        hands.due(35, "the later mark, since mark 0 stays less", x.fresh(0, 10), 5);
        hands.due(35, "the later mark", x.fresh(0, 11), 3);
        LeastWords y = Hands.opened("marks 2;chest 5 5;word:m 0=3;word:m 1=3;");
        hands.due(35, "mark 0, since it becomes less", y.fresh(0, 10), 3);
        hands.due(35, "the later stays", y.fresh(0, 11), 5);
    }

    private static void freshLamp() {
        LeastWords x = Hands.opened("marks 2;chest 1 9;spare 2 9;word:m 0=1;word:m 1=0;lamp 0 1 2;lamp 1 9 0;lamp 0 3 1;");
        hands.due(35, "by day one like it is in", x.fresh(0, 0), 1);
        hands.due(35, "by day", x.fresh(0, 10), 0);
        hands.due(35, "by day another is new", x.fresh(1, 0), 0);
        x.lamp();
        hands.due(35, "by lamp both look alike", x.fresh(1, 0), 1);
        hands.due(35, "mark 0 as it looks, to the first other", x.fresh(0, 10), 1);
        hands.due(35, "mark 1 as it looks", x.fresh(0, 11), 0);
    }

    private static void twins() {
        hands.due(36, "no chests", new LeastWords().twins(), 0);
        hands.due(36, "none is in", Hands.opened("marks 1;spare 1;spare 1;").twins(), 0);
        hands.due(36, "one is in", Hands.opened("marks 1;spare 1;chest 1;").twins(), 0);
        LeastWords x = Hands.opened("marks 1;" + "chest 1;".repeat(14) + "word:m 0=1;".repeat(10));
        hands.due(36, "all fourteen", x.twins(), FOURTEEN);
        x.change(13, 0, 2);
        hands.due(36, "all but the last", x.twins(), 0x1fff);
        x.change(0, 0, 2);
        hands.due(36, "the first and the last, and the others", x.twins(), FOURTEEN);
        x.carry(0);
        hands.due(36, "the last has none again", x.twins(), 0x1ffe);
        LeastWords last = Hands.opened("marks 1;chest 1;chest 2;" + "word:1=1;".repeat(9) + "word:m 0=1;");
        hands.due(36, "they differ by the last word", last.twins(), 0);
    }

    private static void parts() {
        hands.due(37, "no words", Hands.opened("marks 1;chest 1;chest 2;").parts(), -1);
        hands.due(37, "no words, no chests", new LeastWords().parts(), -1);
        hands.due(37, "no chests: the first", Hands.opened("marks 1;word:1=1;word:1=2;").parts(), 0);
        hands.due(37, "none is in: the first", Hands.opened("marks 1;spare 1;word:1=1;word:1=2;").parts(), 0);
        hands.due(37, "none parts: the first", Hands.opened("marks 1;chest 1;chest 1;word:1=1;word:1=2;").parts(), 0);
        LeastWords x = Hands.opened("marks 1;" + "chest 1;".repeat(14) + "word:number<1;word:number>11;word:number<4;"
            + "word:number>8;word:number<6;word:number>7;word:number=9 or number<6;word:number>6;word:number<7;word:1=1;");
        hands.due(37, "seven and seven: the first", x.parts(), 6);
        x.carry(9);
        hands.due(37, "six and seven: the first", x.parts(), 4);
        LeastWords last = Hands.opened("marks 1;chest 1;chest 2;" + "word:1=2;".repeat(9) + "word:m 0=1;");
        hands.due(37, "the last of ten", last.parts(), 9);
    }

    private static void idle() {
        hands.due(38, "no words", Hands.opened("marks 1;chest 1;").idle(), 0);
        hands.due(38, "none is in: all ten", Hands.opened("marks 1;spare 1;" + "word:m 0=1;".repeat(10)).idle(), ALL);
        hands.due(38, "one is in: all ten", Hands.opened("marks 1;chest 1;" + "word:m 0=1;".repeat(10)).idle(), ALL);
        LeastWords x = Hands.opened("marks 1;" + "chest 1;".repeat(14) + "word:1=2;word:number=0;" + "word:number<13;".repeat(7)
            + "word:1=1;");
        hands.due(38, "for none, for all fourteen", x.idle(), 1 | 1 << 9);
        x.carry(13);
        hands.due(38, "for all thirteen", x.idle(), ALL & ~2);
        x.carry(0);
        hands.due(38, "for all twelve", x.idle(), ALL);
    }

    private static void nearest() {
        hands.due(39, "alone", Hands.opened("marks 1;chest 1;").nearest(0), -1);
        hands.due(39, "none is in", Hands.opened("marks 1;spare 1;spare 1;").nearest(1), -1);
        hands.due(39, "it is out, another is in", Hands.opened("marks 1;spare 1;chest 1;").nearest(0), 1);
        hands.due(39, "others are out", Hands.opened("marks 1;spare 1;chest 1;").nearest(1), -1);
        LeastWords far = Hands.opened("marks 1;" + "spare 1;".repeat(12) + "chest 1;chest 2;" + "word:m 0=1;".repeat(10));
        hands.due(39, "by no word alike, but the only other", far.nearest(12), 13);
        hands.due(39, "by no word alike, but the only other", far.nearest(13), 12);
        hands.due(39, "like the first of them", far.nearest(0), 12);
        LeastWords x = Hands.opened("marks 1;" + "chest 1;".repeat(14) + "word:m 0=1;");
        hands.due(39, "all alike: the first", x.nearest(13), 0);
        hands.due(39, "all alike: the first other", x.nearest(0), 1);
        for (int c : new int[] {LOW, -1, 14, HIGH}) {
            hands.thrown(39, "nearest(" + c + ")", NO_SUCH, () -> x.nearest(c));
        }
    }

    private static void differ() {
        LeastWords x = Hands.opened("marks 1;chest 1;" + "spare 1;".repeat(12) + "chest 2;" + "word:m 0=1;".repeat(9)
            + "word:m 0=2;");
        hands.due(40, "by all ten, said or denied", x.differ(0, 13), ALL);
        hands.due(40, "the other way round", x.differ(13, 0), ALL);
        hands.due(40, "itself", x.differ(13, 13), 0);
        hands.due(40, "one that is out", x.differ(0, 12), 0);
        hands.due(40, "without words", Hands.opened("marks 1;chest 1;chest 2;").differ(0, 1), 0);
        for (int c : new int[] {LOW, -1, 14, HIGH}) {
            hands.thrown(40, "differ(" + c + ", 0)", NO_SUCH, () -> x.differ(c, 0));
            hands.thrown(40, "differ(0, " + c + ")", NO_SUCH, () -> x.differ(0, c));
        }
    }

    private static void common() {
        LeastWords x = Hands.opened("marks 1;" + "chest 1;".repeat(14) + "word:1=1;word:number=13;" + "word:number<13;".repeat(7)
            + "word:1=2;");
        hands.due(41, "of all fourteen", x.common(FOURTEEN), 1 | 1 << 19);
        hands.due(41, "of the last", x.common(1 << 13), 3 | 0x3fc << 10);
        hands.due(41, "of the first", x.common(1), 0x1fd | 0x202 << 10);
        hands.due(41, "of the first and the last", x.common(1 | 1 << 13), 1 | 1 << 19);
        for (int set : new int[] {0, 1 << 14, 1 | 1 << 14, 1 << 30, LOW, LOW | 1, -1, HIGH}) {
            hands.thrown(41, "set " + set, ARGUMENT, () -> x.common(set));
        }
        x.carry(13);
        for (int set : new int[] {1 << 13, 1 | 1 << 13, FOURTEEN}) {
            hands.thrown(41, "the last is out, set " + set, ARGUMENT, () -> x.common(set));
        }
        hands.due(41, "the others", x.common(0x1fff), 0x1fd | 0x202 << 10);
        LeastWords all = Hands.opened("marks 1;chest 1;" + "word:1=1;".repeat(10));
        hands.due(41, "all ten said", all.common(1), ALL);
        LeastWords none = Hands.opened("marks 1;chest 1;" + "word:1=2;".repeat(10));
        hands.due(41, "all ten denied", none.common(1), ALL << 10);
    }

    private static void changing() {
        hands.due(42, "no chests", new LeastWords().changing(), 0);
        hands.due(42, "no words", Hands.opened("marks 1;chest 1;lamp 0 1 2;").changing(), 0);
        hands.due(42, "no lamps", Hands.opened("marks 1;chest 1;word:m 0=1;").changing(), 0);
        String words = "word:1=1;".repeat(9) + "word:m 0=2;lamp 0 1 2;";
        hands.due(42, "all fourteen, by the last word", Hands.opened("marks 1;" + "chest 1;".repeat(14) + words).changing(),
            FOURTEEN);
        hands.due(42, "the last", Hands.opened("marks 1;" + "chest 2;".repeat(13) + "chest 1;" + words).changing(), 1 << 13);
        hands.due(42, "all that are out", Hands.opened("marks 1;" + "spare 1;".repeat(14) + words).changing(), FOURTEEN);
        LeastWords looks = Hands.opened("marks 1;chest 1;word:m 0<3;lamp 0 1 2;");
        hands.due(42, "it looks otherwise, but no word changes", looks.changing(), 0);
        LeastWords both = Hands.opened("marks 1;chest 1;word:m 0=1;word:m 0=2;lamp 0 1 2;");
        hands.due(42, "one word wins, one loses", both.changing(), 1);
    }

    private static void greedy() {
        hands.due(43, "alone", Hands.opened("marks 1;chest 1;word:m 0=1;").greedy(0), 0);
        hands.due(43, "two, no words", Hands.opened("marks 1;chest 1;chest 2;").greedy(0), -1);
        LeastWords x = Hands.opened(eachLacksOne("chest", "chest", 10));
        hands.due(43, "all ten said", x.greedy(0), ALL);
        hands.due(43, "the last denied", x.greedy(10), 1 << 19);
        LeastWords last = Hands.opened("marks 1;" + "spare 1;".repeat(12) + "chest 1;chest 2;" + "word:1=1;".repeat(9)
            + "word:m 0=2;");
        hands.due(43, "the last chest by the last word", last.greedy(13), 1 << 9);
        hands.due(43, "the last but one", last.greedy(12), 1 << 19);
        for (int c : new int[] {LOW, -1, 14, HIGH}) {
            hands.thrown(43, "greedy(" + c + ")", NO_SUCH, () -> last.greedy(c));
        }
        hands.thrown(43, "one that is out", STATE, () -> last.greedy(0));
        last.carry(0);
        hands.due(43, "one like it came in", last.greedy(12), -1);
        hands.due(43, "the other is told still", last.greedy(13), 1 << 9);
        // words that leave none fewer are never taken, though they cost least
        LeastWords dear = Hands.opened("marks 1;chest 1;chest 2;word:1=1;word cost 9:m 0=1;word cost 8:m 0=2;");
        hands.due(43, "9 said or 8 denied: of like ones the first", dear.greedy(0), 2);
        hands.due(43, "9 denied or 8 said", dear.greedy(1), 4);
        // by lamp
        LeastWords lamp = Hands.opened("marks 1;chest 1;chest 2;word:m 0=1;lamp 0 2 1;");
        hands.due(43, "by day", lamp.greedy(0), 1);
        lamp.lamp();
        hands.due(43, "by lamp", lamp.greedy(0), -1);
    }
}
