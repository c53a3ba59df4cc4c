import java.util.NoSuchElementException;

/** Promises 20 to 31 at their bounds: the first and the last of all, one beyond, none and all IN, round again. */
public final class DeedEdges {
    private static final Class<NoSuchElementException> NO_SUCH = NoSuchElementException.class;
    private static final Class<IllegalStateException> STATE = IllegalStateException.class;
    private static final Class<IllegalArgumentException> ARGUMENT = IllegalArgumentException.class;
    private static final Hands hands = new Hands();
    private static final int LOW = Integer.MIN_VALUE;
    private static final int HIGH = Integer.MAX_VALUE;

    public static void main(String[] args) {
        people();
        claim();
        settleRound();
        settleOfMany();
        settleUses();
        lamp();
        carry();
        claimsBehindCarry();
        change();
        stake();
        winner();
        undoTen();
        undoRound();
        undoOfAll();
        undoNothingElse();
        toldNumbers();
        toldBeyond();
        toldChanges();
        judgeFull();
        judgeSettlings();
        perform();
        nightTimes();
        nights();
        nightOfOne();
        hands.end();
    }

    private static void people() {
        LeastWords one = Hands.opened("marks 1;chest 1;people 1;");
        hands.due(20, "the only person", one.claim(0, 0), 1);
        hands.thrown(20, "the second of one", NO_SUCH, () -> one.claim(1, 0));
        hands.due(26, "the only person", one.person(0, 0), 0);
        hands.thrown(26, "the second of one", NO_SUCH, () -> one.person(1, 0));
        LeastWords six = Hands.opened("marks 1;chest 1;people 6;");
        hands.due(20, "the last of six", six.claim(5, 0), 1);
        hands.due(26, "the last of six", six.person(5, 0), 0);
        hands.due(26, "the first of six", six.person(0, 0), -1);
        for (int p : new int[] {LOW, -1, 6, HIGH}) {
            hands.thrown(20, "person " + p, NO_SUCH, () -> six.claim(p, 0));
            hands.thrown(26, "person " + p, NO_SUCH, () -> six.person(p, 0));
        }
        for (int what : new int[] {LOW, -1, 2, HIGH}) {
            hands.thrown(26, "what " + what, ARGUMENT, () -> six.person(5, what));
        }
        // fewer people than in the hall ahead of it
        Hands.open(six, "marks 1;chest 1;people 5;");
        hands.thrown(26, "the sixth of five", NO_SUCH, () -> six.person(5, 0));
        hands.due(26, "the fifth of five", six.person(4, 1), 0);
    }

    private static void claim() {
        LeastWords x = Hands.opened("marks 1;chest 1;chest 2;word:m 0=1;people 6;");
        hands.due(20, "of nothing said, with two in", x.claim(0, 0), 0);
        hands.due(20, "that is a claim", x.person(0, 0), 0);
        hands.due(9, "the other alone", x.fits(1 << 10), 2);
        hands.due(20, "that tells another", x.claim(1, 1 << 10), 0);
        for (int p = 2; p < 6; p++) {
            hands.due(20, "that tells it", x.claim(p, 1), 1);
        }
        hands.due(49, "claims of all", x.count(9), 6);
        hands.due(20, "a later one", x.claim(5, 0), 0);
        hands.due(20, "strikes", x.person(5, 0), 0);
        hands.due(49, "claims of all", x.count(9), 6);
        x.carry(1);
        hands.due(20, "of nothing said, with one in", x.claim(5, 0), 1);
        hands.due(20, "that tells none", x.claim(4, 1 << 10), 0);
        x.carry(0);
        hands.thrown(20, "none is in", STATE, () -> x.claim(0, 0));
        hands.thrown(20, "none is in, no such person", NO_SUCH, () -> x.claim(6, 0));
        hands.thrown(20, "none is in, no description", STATE, () -> x.claim(0, -1));
        x.lamp();
        x.carry(1);
        hands.due(20, "one is in again", x.claim(0, 1 << 10), 1);
    }

    private static void settleRound() {
        LeastWords x = Hands.opened("marks 1;spare 1;chest 2;" + "spare 3;".repeat(10) + "chest 4;chest 5;");
        int[] round = {12, 13, 1, 12};
        hands.due(49, "the first that is in", x.count(7), 1);
        for (int next : round) {
            hands.due(21, "nobody", x.settle(), -1);
            hands.due(21, "the first behind it, round again", x.count(7), next);
        }
        x.carry(1);
        x.carry(13);
        hands.due(49, "the stake stays", x.count(7), 12);
        hands.due(21, "nobody", x.settle(), -1);
        hands.due(21, "it itself, if there is no other", x.count(7), 12);
        hands.due(21, "that is a deed, too", x.count(11), 7);
        x.carry(0);
        x.settle();
        hands.due(21, "behind it there is the first", x.count(7), 0);
        // the last of fourteen is won
        LeastWords y = Hands.opened("marks 1;" + "chest 1;".repeat(13) + "chest 2;word:m 0=2;");
        y.stake(13);
        y.claim(1, 1);
        hands.due(21, "the last is won", y.settle(), 1);
        hands.due(21, "the first again", y.count(7), 0);
        hands.due(49, "thirteen are in", y.count(3), 13);
        LeastWords last = Hands.opened("marks 1;spare 1;chest 2;");
        last.claim(0, 0);
        hands.due(21, "the only one is won", last.settle(), 0);
        hands.due(21, "there is no stake", last.count(7), -1);
        hands.due(49, "none is in", last.count(3), 0);
        hands.thrown(21, "no stake", STATE, () -> last.settle());
        hands.thrown(21, "no stake at first", STATE, () -> new LeastWords().settle());
        hands.thrown(21, "none in at first", STATE, () -> Hands.opened("marks 1;spare 1;").settle());
    }

    private static void settleOfMany() {
        String hall = "marks 1;chest 1;chest 2;word cost 3:m 0=1;word cost 2:m 0=2;word cost 2:m 0=1;people 6;";
        // word 0, not word 1, word 2 tell chest 0 at 3, 3, 2
        int[][] claims = {{1, 2048, 1, 2048, 4, 4}, {2, 1, 2048, 1, 2048, 1}, {2, 0, 6, 2, 2048, 1},
            {-1, -1, -1, -1, -1, 1}, {2, 2, 2, 2, 2, 2}, {0, 0, 0, 0, 0, 0}, {5, -1, 4, 4, 4, 4}, {4, 4, 4, 4, 4, 4}};
        int[] winners = {4, 1, 4, 5, -1, -1, 2, 0};
        for (int i = 0; i < claims.length; i++) {
            LeastWords x = Hands.opened(hall);
            for (int p = 0; p < 6; p++) {
                if (claims[i][p] >= 0) {
                    x.claim(p, claims[i][p]);
                }
            }
            int winner = winners[i];
            hands.due(27, "who would win, row " + i, x.winner(), winner);
            hands.due(21, "who wins, row " + i, x.settle(), winner);
            for (int p = 0; p < 6; p++) {
                hands.due(26, "has, person " + p + ", row " + i, x.person(p, 1), p == winner ? 1 : 0);
                hands.due(21, "no claim, person " + p + ", row " + i, x.person(p, 0), -1);
            }
            hands.due(21, "in, row " + i, x.fits(0), winner < 0 ? 3 : 2);
            hands.due(21, "the stake, row " + i, x.count(7), 1);
        }
    }

    private static void settleUses() {
        LeastWords x = Hands.opened("marks 1;chest 1;chest 2;" + "word:m 0=1;".repeat(9) + "word:m 0=3;hire 1;");
        x.claim(0, 1 | 1 << 19);
        x.claim(1, 2 | 1 << 19 | 4);
        hands.due(21, "the cheaper", x.settle(), 0);
        hands.due(21, "said and denied ones are used", x.count(5), 2);
        hands.due(7, "the first", x.word(0, 2), 1);
        hands.due(7, "the last", x.word(9, 2), 1);
        hands.due(7, "of another claim none", x.word(1, 2), 0);
        x.claim(0, 0);
        hands.due(21, "by nothing said", x.settle(), 0);
        hands.due(21, "none more is used", x.count(5), 2);
        hands.due(26, "two", x.person(0, 1), 2);
        // ahead of the settling they cost no hire, behind it they do: word 0 said 1, word 1 said 1
        LeastWords y = Hands.opened("marks 1;chest 1;chest 2;chest 3;word:m 0<3;word cost 2:m 0<3;word:m 0=1;hire 2;");
        y.claim(0, 5);
        hands.due(21, "it tells", y.settle(), 0);
        y.claim(0, 1);
        y.claim(1, 2);
        hands.due(21, "a used word costs 3, the other 2", y.settle(), 1);
        LeastWords none = Hands.opened("marks 1;chest 1;chest 2;word:m 0=1;");
        none.claim(0, 1 << 10);
        none.settle();
        hands.due(21, "nobody wins, none is used", none.count(5), 0);
    }

    private static void lamp() {
        LeastWords x = new LeastWords();
        for (int i = 1; i <= 12; i++) {
            hands.due(22, "lit and put out", x.lamp(), i % 2);
            hands.due(49, "lit", x.count(8), i % 2);
            hands.due(22, "a deed", x.count(11), Math.min(i, 10));
        }
        LeastWords y = Hands.opened("marks 1;chest 1;word:m 0=2;lamp 0 1 2;");
        y.claim(0, 1);
        hands.due(27, "by day it tells none", y.winner(), -1);
        y.lamp();
        hands.due(22, "claims stay", y.count(9), 1);
        hands.due(27, "by lamp it tells it", y.winner(), 0);
    }

    private static void carry() {
        LeastWords x = Hands.opened("marks 1;" + "spare 1;".repeat(14));
        hands.due(49, "no stake", x.count(7), -1);
        hands.due(23, "the last in", x.carry(13), 1);
        hands.due(23, "is the stake", x.count(7), 13);
        hands.due(23, "the first in", x.carry(0), 1);
        hands.due(23, "the stake stays", x.count(7), 13);
        hands.due(23, "the last out", x.carry(13), 0);
        hands.due(23, "the first is the stake", x.count(7), 0);
        hands.due(23, "the first out", x.carry(0), 0);
        hands.due(23, "none is in", x.count(7), -1);
        hands.due(49, "none is in", x.count(3), 0);
        for (int c = 13; c >= 0; c--) {
            hands.due(23, "in", x.carry(c), 1);
            hands.due(6, "in", x.chest(c, 0), 1);
        }
        hands.due(49, "all are in", x.count(3), 14);
        hands.due(23, "the first that came in", x.count(7), 13);
        for (int c : new int[] {LOW, -1, 14, 31, 32, HIGH}) {
            hands.thrown(23, "carry(" + c + ")", NO_SUCH, () -> x.carry(c));
        }
        hands.due(49, "all are in", x.count(3), 14);
    }

    private static void claimsBehindCarry() {
        LeastWords x = Hands.opened("marks 1;chest 1;chest 2;spare 3;");
        x.stake(1);
        x.claim(1, 0);
        x.carry(0);
        hands.due(23, "another goes out: claims stay", x.count(9), 1);
        x.carry(2);
        hands.due(23, "another comes in: claims stay", x.person(1, 0), 0);
        x.carry(2);
        hands.due(27, "it tells the stake", x.winner(), 1);
        x.carry(1);
        hands.due(23, "the stake goes out, none is left: claims are over", x.count(9), 0);
        hands.due(23, "no stake", x.count(7), -1);
        x.carry(1);
        hands.due(23, "it comes in again: the stake", x.count(7), 1);
        hands.due(23, "claims stay over", x.person(1, 0), -1);
        x.claim(0, 0);
        x.carry(0);
        hands.due(23, "a lower one comes in: the stake stays", x.count(7), 1);
        x.carry(1);
        hands.due(23, "the first is the stake", x.count(7), 0);
        hands.due(23, "claims are over", x.person(0, 0), -1);
    }

    private static void change() {
        LeastWords x = Hands.opened("marks 6;chest 1 2 3 4 5 6;" + "spare 0 0 0 0 0 0;".repeat(12) + "spare 1 2 3 4 5 6;"
            + "word:m 5=9;");
        hands.due(24, "the first mark of the first to 0", x.change(0, 0, 0), 1);
        hands.due(24, "it is 0", x.mark(0, 0, false), 0);
        hands.due(24, "the last mark of the last to 9", x.change(13, 5, 9), 6);
        hands.due(24, "it is 9", x.mark(13, 5, false), 9);
        hands.due(24, "its word holds", x.chest(13, 1), 1);
        hands.due(24, "to the same", x.change(13, 5, 9), 9);
        hands.due(24, "a deed, too", x.count(11), 3);
        for (int m = 0; m < 5; m++) {
            hands.due(24, "others stay", x.mark(13, m, false), m + 1);
            hands.due(24, "others stay", x.mark(0, m + 1, false), m + 2);
        }
        for (int c : new int[] {LOW, -1, 14, HIGH}) {
            hands.thrown(24, "chest " + c, NO_SUCH, () -> x.change(c, 0, 0));
        }
        for (int m : new int[] {LOW, -1, 6, HIGH}) {
            hands.thrown(24, "mark " + m, NO_SUCH, () -> x.change(0, m, 0));
        }
        for (int v : new int[] {LOW, -1, 10, HIGH}) {
            hands.thrown(24, "to " + v, ARGUMENT, () -> x.change(0, 0, v));
        }
        hands.due(24, "no deeds", x.count(11), 3);
        for (int v = 0; v < 10; v++) {
            x.change(7, 3, v);
            hands.due(24, "each number", x.mark(7, 3, true), v);
        }
    }

    private static void stake() {
        LeastWords x = Hands.opened("marks 1;chest 1;" + "spare 2;".repeat(12) + "chest 3;people 6;");
        x.claim(5, 0);
        hands.due(25, "the last", x.stake(13), 0);
        hands.due(25, "claims are over", x.person(5, 0), -1);
        x.claim(5, 0);
        hands.due(25, "the first", x.stake(0), 13);
        hands.due(25, "claims are over", x.count(9), 0);
        x.claim(5, 0);
        hands.due(25, "itself", x.stake(0), 0);
        hands.due(25, "claims are over", x.count(9), 0);
        hands.due(25, "deeds", x.count(11), 6);
        for (int c : new int[] {LOW, -1, 14, HIGH}) {
            hands.thrown(25, "stake(" + c + ")", NO_SUCH, () -> x.stake(c));
        }
        hands.thrown(25, "the first that is out", STATE, () -> x.stake(1));
        hands.thrown(25, "the last that is out", STATE, () -> x.stake(12));
        hands.due(25, "no deeds", x.count(11), 6);
    }

    private static void winner() {
        hands.due(27, "no chests", new LeastWords().winner(), -1);
        hands.due(27, "none is in", Hands.opened("marks 1;spare 1;").winner(), -1);
        LeastWords x = Hands.opened("marks 1;chest 1;chest 2;word:m 0=1;word:m 0=2;people 6;");
        hands.due(27, "no claims", x.winner(), -1);
        x.claim(5, 1);
        hands.due(27, "the last person", x.winner(), 5);
        x.claim(4, 1 << 11);
        hands.due(27, "a dearer one is no better", x.winner(), 5);
        x.claim(3, 1);
        hands.due(27, "of like ones the first", x.winner(), 3);
        x.claim(0, 2);
        hands.due(27, "that tells another does not count", x.winner(), 3);
        x.stake(1);
        hands.due(27, "claims are over", x.winner(), -1);
        x.carry(0);
        x.carry(1);
        hands.due(27, "none is in", x.winner(), -1);
    }

    private static void undoTen() {
        LeastWords x = Hands.opened("marks 1;chest 0;");
        for (int n : new int[] {LOW, -1, 0, 1, 10, 11, HIGH}) {
            hands.thrown(28, "none, undo(" + n + ")", ARGUMENT, () -> x.undo(n));
        }
        for (int v = 1; v <= 9; v++) {
            x.change(0, 0, v);
        }
        hands.thrown(28, "ten of nine", ARGUMENT, () -> x.undo(10));
        x.change(0, 0, 5);
        hands.due(28, "ten of ten", x.undo(10), 0);
        hands.due(28, "as at first", x.mark(0, 0, false), 0);
        hands.thrown(28, "one of none", ARGUMENT, () -> x.undo(1));
        for (int v = 1; v <= 9; v++) {
            x.change(0, 0, v);
        }
        x.change(0, 0, 8);
        x.change(0, 0, 7);
        hands.due(49, "ten of eleven", x.count(11), 10);
        hands.thrown(28, "eleven", ARGUMENT, () -> x.undo(11));
        hands.due(28, "all but one of ten", x.undo(9), 1);
        hands.due(28, "behind two", x.mark(0, 0, false), 2);
        hands.thrown(28, "two of one", ARGUMENT, () -> x.undo(2));
        hands.due(28, "the last of ten", x.undo(1), 0);
        hands.due(28, "the eldest is forgotten", x.mark(0, 0, false), 1);
        hands.thrown(28, "one of none", ARGUMENT, () -> x.undo(1));
    }

    /** Rows of deeds and of undoing, so that what is forgotten and what is kept goes round many times. */
    private static void undoRound() {
        LeastWords x = Hands.opened("marks 2;chest 0 0;");
        int[] was = new int[1000];
        int deeds = 0;
        int kept = 0;
        for (int round = 1; round <= 20; round++) {
            for (int i = 0; i < round % 13; i++) {
                int v = (deeds * 7 + round) % 10;
                was[deeds] = x.change(0, 0, v);
                deeds++;
                kept = Math.min(10, kept + 1);
            }
            int n = 1 + round * 5 % 10;
            if (n <= kept) {
                kept -= n;
                deeds -= n;
                hands.due(28, "left, round " + round, x.undo(n), kept);
                hands.due(28, "as it was, round " + round, x.mark(0, 0, false), was[deeds]);
            } else {
                int many = n;
                hands.thrown(28, "too many, round " + round, ARGUMENT, () -> x.undo(many));
            }
            hands.due(49, "can be undone, round " + round, x.count(11), kept);
        }
    }

    /** Each of the seven sorts of DEEDS, undone one by one. */
    private static void undoOfAll() {
        String hall = "marks 1;chest 1;chest 2;spare 3;word:m 0=1;word:m 0=2;";
        LeastWords x = Hands.opened(hall);
        x.claim(0, 1);
        x.lamp();
        x.carry(2);
        x.change(2, 0, 9);
        x.settle();
        x.stake(2);
        x.carry(1);
        x.lamp();
        hands.due(28, "the lamp put out", x.undo(1), 7);
        hands.due(28, "it is lit", x.count(8), 1);
        hands.due(28, "the chest brought out", x.undo(1), 6);
        hands.due(28, "it is in", x.chest(1, 0), 1);
        hands.due(28, "the stake set", x.undo(1), 5);
        hands.due(28, "it is the next", x.count(7), 1);
        hands.due(28, "the settling", x.undo(1), 4);
        hands.due(28, "it is in", x.fits(0), 7);
        hands.due(28, "it has none", x.person(0, 1), 0);
        hands.due(28, "none is used", x.count(5), 0);
        hands.due(28, "its claim", x.person(0, 0), 1);
        hands.due(28, "the stake", x.count(7), 0);
        hands.due(28, "the mark changed", x.undo(1), 3);
        hands.due(28, "it is as it was", x.mark(2, 0, false), 3);
        hands.due(28, "the chest brought in", x.undo(1), 2);
        hands.due(28, "it is out", x.chest(2, 0), 0);
        hands.due(28, "the lamp lit", x.undo(1), 1);
        hands.due(28, "it is day", x.count(8), 0);
        hands.due(28, "the claim", x.undo(1), 0);
        hands.due(28, "there is none", x.person(0, 0), -1);
        // a settling that nobody wins, a stake that goes out with its claims
        x.claim(1, 2);
        x.settle();
        x.claim(0, 2);
        x.carry(1);
        hands.due(28, "a stake that went out", x.undo(1), 3);
        hands.due(28, "is the stake", x.count(7), 1);
        hands.due(28, "its claims, too", x.person(0, 0), 2);
        hands.due(28, "a claim, a settling", x.undo(2), 1);
        hands.due(28, "its claims, too", x.person(1, 0), 2);
    }

    private static void undoNothingElse() {
        LeastWords x = Hands.opened("marks 1;chest 1;chest 2;");
        x.lamp();
        Hands.fill(x, 0, 1, 3000);
        x.image(0);
        x.feed(0, 0, 0, 0, 0);
        x.tray(1, 0, 1);
        x.copy(1);
        hands.due(49, "trays, images, the tape are no deeds", x.count(11), 1);
        x.undo(1);
        hands.due(28, "the tape stays", x.count(12), 20);
        hands.due(28, "trays stay", x.judge(0, 0), -1);
        x.restore(0);
        hands.due(28, "images stay", x.count(8), 1);
    }

    private static LeastWords fourteen() {
        return Hands.opened("marks 6;" + "chest 0 0 0 0 0 0;".repeat(7) + "spare 0 0 0 0 0 0;".repeat(7) + "word:m 5=9;");
    }

    private static void judged(int chests, int marks, long told, boolean can) {
        LeastWords x = Hands.opened("marks " + marks + ";" + ("chest" + " 0".repeat(marks) + ";").repeat(chests));
        Hands.fill(x, 0, 3, told);
        String of = told + " of " + chests + " chests, " + marks + " marks";
        hands.due(29, of + ": where", x.judge(0, 0), can ? -1 : 0);
        hands.due(29, of + ": why", x.judge(0, 1), can ? 0 : 1);
        hands.due(30, of + ": how many", x.perform(0), can ? 1 : 0);
        hands.due(30, of + ": deeds", x.count(11), can ? 1 : 0);
    }

    private static void toldNumbers() {
        judged(1, 1, 0, true);
        judged(1, 1, 9, true);
        judged(1, 1, 10, false);
        judged(1, 1, 90, false);
        judged(1, 1, 99, false);
        judged(1, 1, 100, false);
        judged(1, 6, 59, true);
        judged(1, 6, 60, false);
        judged(2, 1, 100, true);
        judged(2, 1, 109, true);
        judged(2, 1, 110, false);
        judged(2, 1, 200, false);
        judged(14, 6, 1300, true);
        judged(14, 6, 1359, true);
        judged(14, 6, 1360, false);
        judged(14, 6, 1399, false);
        judged(13, 6, 1259, true);
        judged(13, 6, 1300, false);
        judged(14, 6, 1400, false);
        judged(14, 6, 1999, false);
        judged(14, 6, 2000, true);
        judged(14, 6, 2013, true);
        judged(13, 6, 2012, true);
        judged(13, 6, 2013, false);
        judged(1, 1, 2001, false);
        judged(14, 6, 2014, false);
        judged(14, 6, 2999, false);
        judged(14, 6, 3000, true);
        judged(14, 6, 3001, false);
        judged(14, 6, -1, true);
        judged(14, 6, -2, false);
        judged(0, 6, -1, false);
        judged(0, 6, 0, false);
        judged(0, 6, 2000, false);
        judged(0, 6, 3000, true);
    }

    private static void toldBeyond() {
        long wide = 1L << 32;
        for (long told : new long[] {wide, wide + 9, wide + 2000, wide + 3000, wide - 1, -wide, -wide - 1, -wide + 3000,
            Long.MIN_VALUE, Long.MAX_VALUE, LOW, HIGH}) {
            judged(14, 6, told, false);
        }
        // what each sort of tray makes of them
        LeastWords x = fourteen();
        Hands.fill(x, 0, 2, wide + 3000);
        hands.due(29, "cut to 32 bits it is the lamp", x.judge(0, 0), -1);
        Hands.fill(x, 0, 1, 65536 + 2013);
        hands.due(29, "cut to 16 bits it is a chest", x.judge(0, 2), 0x207f);
        Hands.fill(x, 0, 0, 255);
        hands.due(29, "cut to 8 bits it is a settling", x.judge(0, 3), 1);
        Hands.fill(x, 0, 0, 127);
        hands.due(29, "the most of 8 bits", x.judge(0, 0), -1);
        Hands.fill(x, 0, 0, 128);
        hands.due(29, "one more is below 0", x.judge(0, 0), 0);
    }

    /** Each told change, one by one: that MARK of that CHEST is so, and its WORDS hold so; no other MARK changes. */
    private static void toldChanges() {
        StringBuilder text = new StringBuilder("marks 6;" + "chest 5 5 5 5 5 5;".repeat(14));
        for (int m = 0; m < 6; m++) {
            text.append("word:m ").append(m).append("<5;");
        }
        for (int told = 0; told < 1400; told++) {
            int m = told / 10 % 10;
            if (m < 6) {
                LeastWords x = Hands.opened(text.toString());
                Hands.fill(x, 0, 1, told);
                x.perform(0);
                for (int c = 0; c < 14; c++) {
                    boolean there = c == told / 100;
                    hands.due(30, told + ", words of chest " + c, x.chest(c, 1), there && told % 10 < 5 ? 1 << m : 0);
                    for (int k = 0; k < 6; k++) {
                        hands.due(30, told + ", chest " + c, x.mark(c, k, false), there && k == m ? told % 10 : 5);
                    }
                }
            }
        }
    }

    private static void judgeFull() {
        LeastWords x = fourteen();
        x.tray(3, 3, 30);
        for (int i = 0; i < 30; i++) {
            x.write(3, i, 3000);
        }
        hands.due(29, "thirty can be", x.judge(3, 0), -1);
        hands.due(29, "why", x.judge(3, 1), 0);
        x.write(3, 29, 1360);
        hands.due(29, "all but the last", x.judge(3, 0), 29);
        hands.due(29, "why", x.judge(3, 1), 1);
        x.write(3, 0, 2014);
        hands.due(29, "the first of two", x.judge(3, 0), 0);
        x.tray(3, 3, 0);
        hands.due(29, "nothing told can be", x.judge(3, 0), -1);
        hands.due(29, "nothing told", x.judge(3, 1), 0);
        hands.due(29, "nothing told, chests", x.judge(3, 2), 127);
        hands.due(29, "nothing told, stake", x.judge(3, 3), 0);
        hands.due(30, "nothing told", x.perform(3), 0);
        for (int what : new int[] {LOW, -1, 4, HIGH}) {
            hands.thrown(29, "what " + what, ARGUMENT, () -> x.judge(3, what));
        }
        for (int tray : new int[] {LOW, -1, 4, HIGH}) {
            hands.thrown(29, "tray " + tray, NO_SUCH, () -> x.judge(tray, 0));
            hands.thrown(30, "tray " + tray, NO_SUCH, () -> x.perform(tray));
        }
        hands.thrown(29, "missing", STATE, () -> x.judge(2, 0));
        hands.thrown(30, "missing", STATE, () -> x.perform(2));
        hands.due(29, "no deeds", x.count(11), 0);
    }

    private static void judgeSettlings() {
        LeastWords x = Hands.opened("marks 1;chest 1;spare 2;word:m 0=1;");
        x.claim(1, 0);
        Hands.fill(x, 0, 2, -1, -1);
        hands.due(29, "the only one is won, then there is no stake", x.judge(0, 0), 1);
        hands.due(29, "why", x.judge(0, 1), 1);
        hands.due(29, "none is in then", x.judge(0, 2), 0);
        hands.due(29, "no stake then", x.judge(0, 3), -1);
        hands.due(29, "as if done: it has none", x.person(1, 1), 0);
        hands.due(29, "as if done: its claim stays", x.person(1, 0), 0);
        Hands.fill(x, 0, 2, -1, 2001, -1, -1);
        hands.due(29, "another came in", x.judge(0, 0), -1);
        hands.due(29, "it is in then", x.judge(0, 2), 2);
        hands.due(29, "it is the stake then", x.judge(0, 3), 1);
        // a told deed ahead of a settling: with another in, nothing said tells none; the claim stays
        Hands.fill(x, 0, 2, 2001, -1);
        hands.due(29, "nobody wins", x.judge(0, 2), 3);
        hands.due(29, "the next is the stake", x.judge(0, 3), 1);
        LeastWords bare = Start.BARE.made.get();
        hands.due(29, "without a stake a settling behind a chest", bare.judge(1, 0), -1);
        Hands.fill(bare, 1, 1, -1);
        hands.due(29, "without a stake", bare.judge(1, 0), 0);
        hands.due(29, "without a stake, why", bare.judge(1, 1), 1);
        hands.due(30, "without a stake", bare.perform(1), 0);
    }

    private static void perform() {
        LeastWords x = fourteen();
        x.tray(0, 2, 30);
        for (int i = 0; i < 30; i++) {
            x.write(0, i, 1350 + i % 10);
        }
        hands.due(30, "thirty", x.perform(0), 30);
        hands.due(30, "the last of them", x.mark(13, 5, false), 9);
        hands.due(30, "its word holds", x.chest(13, 1), 1);
        hands.due(30, "ten can be undone", x.count(11), 10);
        hands.due(30, "each a deed", x.undo(1), 9);
        hands.due(30, "the last but one", x.mark(13, 5, false), 8);
        x.write(0, 29, 1399);
        hands.due(30, "till the last", x.perform(0), 29);
        x.write(0, 0, 1400);
        hands.due(30, "not one", x.perform(0), 0);
        Hands.fill(x, 1, 1, 2006, 2013, -1, 3000, 3000, 2000);
        hands.due(30, "one of each", x.perform(1), 6);
        hands.due(30, "in then", x.fits(0), 0x203e);
        hands.due(30, "the stake then", x.count(7), 1);
        hands.due(30, "the lamp", x.count(8), 0);
        LeastWords last = Hands.opened("marks 1;chest 1;people 1;");
        last.claim(0, 0);
        Hands.fill(last, 3, 0, -1, -1, -1);
        hands.due(30, "till there is no stake", last.perform(3), 1);
        hands.due(30, "it was won", last.person(0, 1), 1);
    }

    private static void nightTimes() {
        LeastWords x = fourteen();
        for (int times : new int[] {LOW, -1, 0, 31, HIGH}) {
            hands.thrown(31, "times " + times, ARGUMENT, () -> x.night(1, times));
        }
        hands.due(31, "no deeds", x.count(11), 0);
        hands.due(31, "once", x.night(1, 1), 1);
        hands.due(31, "a deed", x.count(11), 1);
        hands.due(31, "thirty times", x.night(1, 30), 30);
        hands.due(31, "deeds", x.count(11), 10);
        LeastWords none = new LeastWords();
        hands.thrown(31, "no chests", STATE, () -> none.night(1, 30));
        hands.thrown(31, "no chests, no times", ARGUMENT, () -> none.night(1, 0));
        LeastWords spare = Hands.opened("marks 1;spare 1;");
        hands.due(31, "none is in", spare.night(1, 30), 30);
    }

    /** A NIGHT, done once more by hand: seeds at which x wraps around at once, and others. */
    private static void nights() {
        int[] seeds = {LOW, LOW + 1, -1, 0, 1, 2, 1 << 16, HIGH - 1, HIGH, -1103515245, 0x55555555};
        for (int seed : seeds) {
            for (int times : new int[] {1, 2, 29, 30}) {
                LeastWords x = fourteen();
                LeastWords y = fourteen();
                hands.due(31, "times, seed " + seed, x.night(seed, times), times);
                byHand(y, seed, times, 14, 6);
                hands.due(31, "in, seed " + seed, x.fits(0), y.fits(0));
                hands.due(31, "lamp, seed " + seed, x.count(8), y.count(8));
                hands.due(31, "stake, seed " + seed, x.count(7), y.count(7));
                hands.due(31, "deeds, seed " + seed, x.count(11), y.count(11));
                for (int c = 0; c < 14; c++) {
                    for (int m = 0; m < 6; m++) {
                        hands.due(31, "mark, seed " + seed, x.mark(c, m, false), y.mark(c, m, false));
                    }
                    hands.due(31, "words, seed " + seed, x.chest(c, 1), y.chest(c, 1));
                }
            }
        }
    }

    private static void byHand(LeastWords y, int seed, int times, int chests, int marks) {
        long x = seed & 0xffffffffL;
        for (int i = 0; i < times; i++) {
            long[] draws = new long[4];
            long[] behind = new long[4];
            for (int k = 0; k < 4; k++) {
                x = (1103515245L * x + 12345) % (1L << 32);
                draws[k] = x / 65536;
                behind[k] = x;
            }
            int sort = (int) (draws[0] % 3);
            if (sort == 0) {
                y.lamp();
            } else if (sort == 1) {
                y.change((int) (draws[1] % chests), (int) (draws[2] % marks), (int) (draws[3] % 10));
            } else {
                y.carry((int) (draws[1] % chests));
            }
            x = behind[sort == 0 ? 0 : sort == 1 ? 3 : 1];
        }
    }

    private static void nightOfOne() {
        LeastWords x = Hands.opened("marks 1;chest 5;word:m 0>4;");
        LeastWords y = Hands.opened("marks 1;chest 5;word:m 0>4;");
        x.night(99, 30);
        byHand(y, 99, 30, 1, 1);
        hands.due(31, "the only mark of the only chest", x.mark(0, 0, false), y.mark(0, 0, false));
        hands.due(31, "in or out", x.chest(0, 0), y.chest(0, 0));
        hands.due(31, "a word", x.chest(0, 1), y.chest(0, 1));
        hands.due(31, "the stake", x.count(7), y.count(7));
    }
}
