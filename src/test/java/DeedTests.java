import java.util.NoSuchElementException;

/** Promises 20 to 31: claim, settle, lamp, carry, change, stake, person, winner, undo, judge, perform, night. */
public final class DeedTests {
    private static final Class<NoSuchElementException> NO_SUCH = NoSuchElementException.class;
    private static final Class<IllegalStateException> STATE = IllegalStateException.class;
    private static final Class<IllegalArgumentException> ARGUMENT = IllegalArgumentException.class;
    private static final Hands hands = new Hands();

    private static final int NOT_0 = 1 << 10;
    private static final int NOT_1 = 1 << 11;
    /** WORDS: chest 0: 0; chest 1: 1; chest 2: none; chest 3 (out): 0. */
    private static final String HALL = "marks 1;chest 1;chest 2;chest 3;spare 1;word cost 2:m 0=1;word:m 0=2;"
        + "lamp 0 3 2;hire 4;people 3;";

    public static void main(String[] args) {
        claim();
        settle();
        winner();
        lampCarryChange();
        stake();
        person();
        undo();
        judge();
        perform();
        night();
        hands.end();
    }

    private static void claim() {
        LeastWords x = Hands.opened(HALL);
        hands.due(20, "that tells", x.claim(0, 1), 1);
        hands.due(20, "that tells another", x.claim(1, 2), 0);
        hands.due(20, "that tells none", x.claim(2, 3), 0);
        hands.due(20, "claims", x.count(9), 3);
        hands.due(20, "a later one", x.claim(1, 0), 0);
        hands.due(20, "strikes", x.person(1, 0), 0);
        hands.due(20, "claims still", x.count(9), 3);
        hands.due(20, "deeds", x.count(11), 4);
        hands.thrown(20, "no such person", NO_SUCH, () -> x.claim(3, -1));
        hands.thrown(20, "no such person", NO_SUCH, () -> x.claim(-1, 0));
        hands.thrown(20, "no description", ARGUMENT, () -> x.claim(0, 1 | NOT_0));
        hands.due(20, "a throw is no deed", x.count(11), 4);
        hands.due(20, "and no claim", x.person(0, 0), 1);
        LeastWords none = Hands.opened("marks 1;spare 1;");
        hands.thrown(20, "no stake", STATE, () -> none.claim(0, -1));
        hands.thrown(20, "no person, no stake", NO_SUCH, () -> none.claim(2, -1));
    }

    private static void settle() {
        LeastWords x = Hands.opened(HALL);
        x.claim(0, 2);
        x.claim(1, 1 | NOT_1);
        x.claim(2, 1);
        hands.due(21, "the least that tells it", x.settle(), 2);
        hands.due(21, "the chest is out", x.chest(0, 0), 0);
        hands.due(21, "words are used", x.word(0, 2), 1);
        hands.due(21, "others aren't", x.word(1, 2), 0);
        hands.due(21, "claims are over", x.count(9), 0);
        hands.due(21, "the next is the stake", x.count(7), 1);
        hands.due(21, "one deed", x.count(11), 4);
        hands.due(21, "without claims", x.settle(), -1);
        hands.due(21, "nothing goes out", x.count(3), 2);
        hands.due(21, "the next", x.count(7), 2);
        hands.due(21, "again", x.settle(), -1);
        hands.due(21, "behind the last the first", x.count(7), 1);
        x.claim(1, NOT_0 | 2);
        hands.due(21, "denied words", x.settle(), 1);
        hands.due(21, "are used, too", x.count(5), 2);
        hands.due(21, "it has one", x.person(1, 1), 1);
        hands.due(21, "one is left", x.count(3), 1);
        hands.due(21, "no other", x.settle(), -1);
        hands.due(21, "it itself", x.count(7), 2);
        x.claim(0, 0);
        hands.due(21, "the last", x.settle(), 0);
        hands.due(21, "no stake then", x.count(7), -1);
        hands.thrown(21, "no stake", STATE, () -> x.settle());
        LeastWords hired = Hands.opened("marks 1;chest 1;chest 2;chest 3;word:m 0=1;word cost 4:m 0=2;word cost 2:m 0<3;hire 9;");
        hired.claim(0, 1);
        hired.settle();
        // chest 1: not word 0 tells no more than word 2 does; word 1 tells it at 4
        hired.claim(0, 4);
        hired.claim(1, 2);
        hands.due(21, "the cheaper", hired.settle(), 0);
        LeastWords gap = Hands.opened("marks 1;chest 1;spare 2;chest 3;chest 4;");
        gap.stake(2);
        gap.carry(0);
        gap.carry(1);
        gap.settle();
        gap.settle();
        hands.due(21, "round to the first that is in", gap.count(7), 1);
    }

    private static void winner() {
        LeastWords x = Hands.opened(HALL);
        hands.due(27, "no claims", x.winner(), -1);
        x.claim(1, 1);
        x.claim(2, 1);
        hands.due(27, "of like ones the first", x.winner(), 1);
        x.claim(1, 2);
        hands.due(27, "the other tells it", x.winner(), 2);
        x.carry(3);
        hands.due(27, "none tells it now", x.winner(), -1);
        x.carry(3);
        hands.due(27, "it is a question alone", x.person(2, 1), 0);
        x.settle();
        // word 0 is used: 2 + 4, with word 1 denied 2
        x.carry(0);
        x.stake(0);
        x.claim(0, 1);
        x.claim(1, NOT_1);
        hands.due(27, "one tells it", x.winner(), 0);
        x.carry(2);
        hands.due(27, "not 1 is cheaper than a hired word", x.winner(), 1);
        hands.due(27, "no stake", new LeastWords().winner(), -1);
    }

    private static void lampCarryChange() {
        LeastWords x = Hands.opened(HALL);
        hands.due(22, "lit", x.lamp(), 1);
        hands.due(22, "by lamp", x.chest(2, 1), 2);
        hands.due(22, "out", x.lamp(), 0);
        hands.due(22, "deeds", x.count(11), 2);
        hands.due(22, "by day", x.chest(2, 1), 0);
        x.claim(0, 1);
        hands.due(23, "in", x.carry(3), 1);
        hands.due(23, "claims stay", x.count(9), 1);
        hands.due(23, "out", x.carry(1), 0);
        hands.due(23, "the stake stays", x.count(7), 0);
        hands.due(23, "claims stay", x.count(9), 1);
        hands.due(23, "the stake goes out", x.carry(0), 0);
        hands.due(23, "the first is the stake", x.count(7), 2);
        hands.due(23, "claims are over", x.count(9), 0);
        x.claim(0, 0);
        hands.due(23, "one ahead of it comes in", x.carry(0), 1);
        hands.due(23, "the stake stays", x.count(7), 2);
        x.stake(3);
        x.claim(0, 0);
        x.carry(3);
        hands.due(23, "not the next, the first", x.count(7), 0);
        x.carry(0);
        x.carry(2);
        hands.due(23, "none is in", x.count(7), -1);
        x.carry(1);
        hands.due(23, "one is", x.count(7), 1);
        hands.thrown(23, "carry(4)", NO_SUCH, () -> x.carry(4));
        hands.thrown(23, "carry(-1)", NO_SUCH, () -> x.carry(-1));
        change();
    }

    private static void change() {
        LeastWords x = Hands.opened("marks 2;chest 1 2;spare 3 4;word:m 1=9;lamp 1 9 8;");
        x.claim(0, 0);
        hands.due(24, "what it was", x.change(0, 1, 9), 2);
        hands.due(24, "what it is", x.mark(0, 1, false), 9);
        hands.due(24, "the other stays", x.mark(0, 0, false), 1);
        hands.due(24, "the word holds", x.chest(0, 1), 1);
        hands.due(24, "claims stay", x.count(9), 1);
        hands.due(24, "by lamp it doesn't", x.holds(0, 0, true) ? 1 : 0, 0);
        hands.due(24, "a spare one", x.change(1, 0, 0), 3);
        hands.due(24, "to the same", x.change(1, 0, 0), 0);
        hands.due(24, "deeds", x.count(11), 4);
        x.lamp();
        hands.due(24, "what it was, not what it looks", x.change(0, 1, 3), 9);
        hands.thrown(24, "change(2, 9, 99)", NO_SUCH, () -> x.change(2, 9, 99));
        hands.thrown(24, "change(0, 2, 99)", NO_SUCH, () -> x.change(0, 2, 99));
        hands.thrown(24, "change(0, -1, 0)", NO_SUCH, () -> x.change(0, -1, 0));
        hands.thrown(24, "change(0, 0, 10)", ARGUMENT, () -> x.change(0, 0, 10));
        hands.thrown(24, "change(0, 0, -1)", ARGUMENT, () -> x.change(0, 0, -1));
        hands.due(24, "deeds still", x.count(11), 6);
    }

    private static void stake() {
        LeastWords x = Hands.opened(HALL);
        x.claim(0, 1);
        hands.due(25, "that which it was", x.stake(2), 0);
        hands.due(25, "the stake", x.count(7), 2);
        hands.due(25, "claims are over", x.count(9), 0);
        x.claim(0, 1);
        hands.due(25, "the same", x.stake(2), 2);
        hands.due(25, "claims are over", x.count(9), 0);
        hands.due(25, "deeds", x.count(11), 4);
        hands.thrown(25, "stake(3)", STATE, () -> x.stake(3));
        hands.thrown(25, "stake(4)", NO_SUCH, () -> x.stake(4));
        hands.thrown(25, "stake(-1)", NO_SUCH, () -> x.stake(-1));
        hands.due(25, "deeds still", x.count(11), 4);
    }

    private static void person() {
        LeastWords x = Hands.opened(HALL);
        hands.due(26, "no claim", x.person(2, 0), -1);
        hands.due(26, "nothing", x.person(2, 1), 0);
        x.claim(2, 1);
        hands.due(26, "claim", x.person(2, 0), 1);
        x.settle();
        x.claim(2, 2);
        x.settle();
        hands.due(26, "two", x.person(2, 1), 2);
        hands.due(26, "no claim then", x.person(2, 0), -1);
        hands.thrown(26, "person(3, 9)", NO_SUCH, () -> x.person(3, 9));
        hands.thrown(26, "person(-1, 0)", NO_SUCH, () -> x.person(-1, 0));
        hands.thrown(26, "person(0, 2)", ARGUMENT, () -> x.person(0, 2));
        hands.due(26, "two people untold", Hands.opened("marks 1;").count(6), 2);
    }

    private static void undo() {
        LeastWords x = Hands.opened(HALL);
        x.claim(0, 1);
        x.claim(1, 2);
        x.settle();
        x.change(1, 0, 7);
        x.lamp();
        x.carry(3);
        x.stake(3);
        hands.due(28, "the stake set", x.undo(1), 6);
        hands.due(28, "stake", x.count(7), 1);
        hands.due(28, "the chest brought in", x.undo(1), 5);
        hands.due(28, "in", x.chest(3, 0), 0);
        hands.due(28, "the lamp, the mark", x.undo(2), 3);
        hands.due(28, "lamp", x.count(8), 0);
        hands.due(28, "mark", x.mark(1, 0, false), 2);
        hands.due(28, "word", x.chest(1, 1), 2);
        hands.due(28, "the settling", x.undo(1), 2);
        hands.due(28, "in again", x.chest(0, 0), 1);
        hands.due(28, "not used", x.count(5), 0);
        hands.due(28, "has none", x.person(0, 1), 0);
        hands.due(28, "claims again", x.count(9), 2);
        hands.due(28, "a claim again", x.person(1, 0), 2);
        hands.due(28, "the stake again", x.count(7), 0);
        hands.thrown(28, "undo(3)", ARGUMENT, () -> x.undo(3));
        hands.thrown(28, "undo(0)", ARGUMENT, () -> x.undo(0));
        hands.thrown(28, "undo(-1)", ARGUMENT, () -> x.undo(-1));
        hands.due(28, "all", x.undo(2), 0);
        hands.thrown(28, "undo(1)", ARGUMENT, () -> x.undo(1));
        x.lamp();
        hands.due(28, "just so many as there are", x.undo(1), 0);
        for (int v = 0; v < 13; v++) {
            x.change(0, 0, v % 10);
        }
        hands.due(28, "ten at most", x.count(11), 10);
        hands.thrown(28, "undo(11)", ARGUMENT, () -> x.undo(11));
        hands.due(28, "some", x.undo(4), 6);
        hands.due(28, "as it was then", x.mark(0, 0, false), 8);
        x.lamp();
        hands.due(28, "undone and done again", x.undo(7), 0);
        hands.due(28, "eldest are forgotten", x.mark(0, 0, false), 2);
    }

    private static void judge() {
        LeastWords x = Hands.opened(HALL);
        hands.thrown(29, "judge(4, 9)", NO_SUCH, () -> x.judge(4, 9));
        hands.thrown(29, "judge(0, 9)", STATE, () -> x.judge(0, 9));
        x.claim(1, 1);
        Hands.fill(x, 0, 2, -1, 2001, 2003, 102, 3000);
        hands.thrown(29, "judge(0, 4)", ARGUMENT, () -> x.judge(0, 4));
        hands.thrown(29, "judge(0, -1)", ARGUMENT, () -> x.judge(0, -1));
        hands.due(29, "all can be", x.judge(0, 0), -1);
        hands.due(29, "why", x.judge(0, 1), 0);
        hands.due(29, "chests then: the claim won", x.judge(0, 2), 12);
        hands.due(29, "the stake then", x.judge(0, 3), 2);
        hands.due(29, "nothing is done", x.count(3), 3);
        hands.due(29, "no deed", x.count(11), 1);
        // a changed mark and the lamp count for a settling behind them
        Hands.fill(x, 0, 2, 5, -1);
        hands.due(29, "the claim tells it no more", x.judge(0, 2), 7);
        Hands.fill(x, 0, 1, 2000, 2001, 2002, -1, 2003);
        hands.due(29, "a settling without a stake", x.judge(0, 0), 3);
        hands.due(29, "why", x.judge(0, 1), 1);
        hands.due(29, "chests till then", x.judge(0, 2), 0);
        hands.due(29, "stake till then", x.judge(0, 3), -1);
        long[] wrong = {400, 1300, 10, 90, 1400, 1999, 2004, 2013, 2014, 2999, 3001, -2, 1L << 32, 3000 + (1L << 32),
            (1L << 32) - 1, Long.MIN_VALUE, Long.MAX_VALUE};
        for (long v : wrong) {
            Hands.fill(x, 3, 3, 3000, v, 3000);
            hands.due(29, v + " can't be", x.judge(3, 0), 1);
            hands.due(29, v + " why", x.judge(3, 1), 1);
        }
        for (long v : new long[] {0, 9, 309, 2000, 2003, 3000, -1}) {
            Hands.fill(x, 3, 3, v);
            hands.due(29, v + " can be", x.judge(3, 0), -1);
        }
        x.tray(2, 0, 0);
        hands.due(29, "nothing told", x.judge(2, 0), -1);
        hands.due(29, "nothing told", x.judge(2, 2), 7);
        hands.due(29, "nothing told", x.judge(2, 3), 0);
    }

    private static void perform() {
        LeastWords x = Hands.opened(HALL);
        hands.thrown(30, "perform(-1)", NO_SUCH, () -> x.perform(-1));
        hands.thrown(30, "perform(1)", STATE, () -> x.perform(1));
        x.claim(2, 1);
        Hands.fill(x, 1, 2, -1, 3000, 209, 2003, 400, 3000);
        hands.due(30, "till one can't be", x.perform(1), 4);
        hands.due(30, "each a deed", x.count(11), 5);
        hands.due(30, "won", x.person(2, 1), 1);
        hands.due(30, "lit", x.count(8), 1);
        hands.due(30, "changed", x.mark(2, 0, false), 9);
        hands.due(30, "in", x.chest(3, 0), 1);
        x.undo(4);
        hands.due(30, "undone", x.count(3), 3);
        Hands.fill(x, 1, 2, 3000, 3000, 3000, 3000, 3000, 3000, 3000, 3000, 3000, 3000, 3000, 3000);
        hands.due(30, "twelve", x.perform(1), 12);
        hands.due(30, "ten can be undone", x.count(11), 10);
    }

    private static void night() {
        LeastWords x = Hands.opened("marks 2;chest 1 1;chest 2 2;spare 3 3;");
        hands.thrown(31, "night(1, 0)", ARGUMENT, () -> x.night(1, 0));
        hands.thrown(31, "night(1, 31)", ARGUMENT, () -> x.night(1, 31));
        hands.thrown(31, "night(1, -1)", ARGUMENT, () -> x.night(1, -1));
        LeastWords none = new LeastWords();
        hands.thrown(31, "no chests", STATE, () -> none.night(1, 1));
        hands.thrown(31, "no chests, no times", ARGUMENT, () -> none.night(1, 31));
        // the first draw of seed 0 is 12345 >>> 16
        hands.due(31, "night(0, 1)", x.night(0, 1), 1);
        hands.due(31, "0: the lamp", x.count(8), 1);
        hands.due(31, "a deed", x.count(11), 1);
        hands.due(31, "night(0, 30)", x.night(0, 30), 30);
        hands.due(31, "deeds", x.count(11), 10);
        nightByHand();
    }

    private static void nightByHand() {
        for (int seed = -20; seed < 20; seed++) {
            LeastWords x = Hands.opened("marks 3;chest 1 1 1;chest 2 2 2;spare 3 3 3;chest 4 4 4;");
            LeastWords y = Hands.opened("marks 3;chest 1 1 1;chest 2 2 2;spare 3 3 3;chest 4 4 4;");
            x.night(seed * 77777777, 1);
            int a = 1103515245 * (seed * 77777777) + 12345;
            int b = 1103515245 * a + 12345;
            int c = 1103515245 * b + 12345;
            int d = 1103515245 * c + 12345;
            switch ((a >>> 16) % 3) {
                case 0: y.lamp(); break;
                case 1: y.change((b >>> 16) % 4, (c >>> 16) % 3, (d >>> 16) % 10); break;
                default: y.carry((b >>> 16) % 4);
            }
            for (int k = 0; k < 4; k++) {
                hands.due(31, "in, seed " + seed, x.chest(k, 0), y.chest(k, 0));
                for (int m = 0; m < 3; m++) {
                    hands.due(31, "mark, seed " + seed, x.mark(k, m, false), y.mark(k, m, false));
                }
            }
            hands.due(31, "lamp, seed " + seed, x.count(8), y.count(8));
        }
    }
}
