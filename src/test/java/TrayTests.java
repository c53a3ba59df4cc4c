import java.util.NoSuchElementException;

/** Promises 44 to 49: tray, write, copy, image, restore, count. */
public final class TrayTests {
    private static final Class<NoSuchElementException> NO_SUCH = NoSuchElementException.class;
    private static final Class<IllegalStateException> STATE = IllegalStateException.class;
    private static final Class<IllegalArgumentException> ARGUMENT = IllegalArgumentException.class;
    private static final Class<IndexOutOfBoundsException> PLACE = IndexOutOfBoundsException.class;
    private static final Hands hands = new Hands();

    public static void main(String[] args) {
        tray();
        write();
        copy();
        image();
        imageOfAnotherHall();
        count();
        hands.end();
    }

    private static void tray() {
        LeastWords x = Hands.opened("marks 1;chest 1;");
        hands.thrown(44, "tray(4)", NO_SUCH, () -> x.tray(4, 9, 99));
        hands.thrown(44, "tray(-1)", NO_SUCH, () -> x.tray(-1, 0, 0));
        hands.thrown(44, "sort 4", ARGUMENT, () -> x.tray(0, 4, 1));
        hands.thrown(44, "sort -1", ARGUMENT, () -> x.tray(0, -1, 1));
        hands.thrown(44, "31", ARGUMENT, () -> x.tray(0, 0, 31));
        hands.thrown(44, "-1", ARGUMENT, () -> x.tray(0, 0, -1));
        hands.thrown(44, "still missing", STATE, () -> x.copy(0));
        x.tray(3, 3, 30);
        hands.due(44, "30 places", x.write(3, 29, 7), 7);
        hands.thrown(44, "the others are missing", STATE, () -> x.copy(2));
        x.tray(3, 3, 30);
        hands.due(44, "0s again: a change each of chest 0", x.judge(3, 0), -1);
        x.write(3, 29, 3001);
        hands.due(44, "the last place", x.judge(3, 0), 29);
        x.tray(3, 0, 0);
        hands.thrown(44, "no places", PLACE, () -> x.write(3, 0, 0));
        hands.due(44, "a tray is no deed", x.count(11), 0);
    }

    private static void write() {
        LeastWords x = new LeastWords();
        hands.thrown(45, "write(4)", NO_SUCH, () -> x.write(4, 99, 0));
        hands.thrown(45, "write(-1)", NO_SUCH, () -> x.write(-1, 0, 0));
        hands.thrown(45, "missing", STATE, () -> x.write(0, 99, 0));
        long far = 0x123456789abcdef0L;
        long[] cut = {(byte) 0xf0, (short) 0xdef0, 0x9abcdef0, far};
        for (int sort = 0; sort < 4; sort++) {
            x.tray(sort, sort, 2);
            hands.due(45, "cut, sort " + sort, x.write(sort, 1, far), cut[sort]);
            hands.due(45, "-1, sort " + sort, x.write(sort, 0, -1), -1);
            int tray = sort;
            hands.thrown(45, "place 2", PLACE, () -> x.write(tray, 2, 0));
            hands.thrown(45, "place -1", PLACE, () -> x.write(tray, -1, 0));
        }
        hands.due(45, "127", x.write(0, 0, 127), 127);
        hands.due(45, "128", x.write(0, 0, 128), -128);
        hands.due(45, "32768", x.write(1, 0, 32768), -32768);
        hands.due(45, "2^31", x.write(2, 0, 1L << 31), -(1L << 31));
        LeastWords y = Hands.opened("marks 1;chest 1;");
        Hands.fill(y, 0, 0, 3000);
        hands.due(45, "3000 cut to 8 bits is -72", y.judge(0, 0), 0);
        Hands.fill(y, 0, 1, 65535);
        hands.due(45, "65535 cut to 16 bits is NONE", y.judge(0, 0), -1);
    }

    private static void copy() {
        LeastWords x = Hands.opened("marks 1;spare 1;chest 2;chest 3;spare 4;chest 5;");
        hands.thrown(46, "copy(4)", NO_SUCH, () -> x.copy(4));
        hands.thrown(46, "missing", STATE, () -> x.copy(0));
        Hands.fill(x, 0, 0, 9, 9, 9, 9, 9);
        hands.due(46, "three", x.copy(0), 3);
        // 1, 2, 4 change chest 0, whose only mark is 1, 2, 4 then, and 9 at last
        x.perform(0);
        hands.due(46, "the places behind stay", x.mark(0, 0, false), 9);
        x.tray(0, 0, 2);
        hands.due(46, "as many as there are places", x.copy(0), 2);
        x.perform(0);
        hands.due(46, "the second is chest 2", x.mark(0, 0, false), 2);
        x.tray(0, 3, 0);
        hands.due(46, "no places", x.copy(0), 0);
        LeastWords first = Hands.opened("marks 1;chest 7;");
        Hands.fill(first, 0, 0, 9);
        hands.due(46, "chest 0", first.copy(0), 1);
        first.perform(0);
        hands.due(46, "it is 0", first.mark(0, 0, false), 0);
        LeastWords none = new LeastWords();
        Hands.fill(none, 2, 2, 5);
        hands.due(46, "none in", none.copy(2), 0);
    }

    private static void image() {
        LeastWords x = Hands.opened("marks 1;chest 1;chest 2;spare 3;word:m 0=1;");
        for (int i : new int[] {-1, 3}) {
            hands.thrown(47, "image(" + i + ")", NO_SUCH, () -> x.image(i));
            hands.thrown(48, "restore(" + i + ")", NO_SUCH, () -> x.restore(i));
        }
        hands.thrown(48, "none was made", STATE, () -> x.restore(2));
        x.claim(1, 1);
        x.settle();
        x.claim(0, 0);
        x.image(1);
        x.lamp();
        x.carry(2);
        x.change(1, 0, 9);
        x.settle();
        Hands.fill(x, 0, 1, 4, 4);
        x.feed(0, 0, 0, 0, 0);
        x.restore(1);
        hands.due(48, "lamp", x.count(8), 0);
        hands.due(48, "in", x.count(3), 1);
        hands.due(48, "mark", x.mark(1, 0, false), 2);
        hands.due(48, "claims", x.person(0, 0), 0);
        hands.due(48, "wins", x.person(1, 1), 1);
        hands.due(48, "used", x.word(0, 2), 1);
        hands.due(48, "stake", x.count(7), 1);
        hands.due(48, "deeds", x.count(11), 3);
        hands.due(48, "not the tape", x.count(12), 20);
        hands.due(48, "not the trays", x.judge(0, 0), -1);
        hands.due(48, "deeds can be undone", x.undo(2), 1);
        hands.due(48, "the settling is undone", x.count(3), 2);
        x.restore(1);
        hands.due(48, "an image stays", x.count(11), 3);
        x.carry(0);
        x.image(1);
        x.carry(0);
        x.restore(1);
        hands.due(47, "made anew", x.count(3), 2);
        hands.thrown(48, "the others were not made", STATE, () -> x.restore(0));
    }

    private static void imageOfAnotherHall() {
        LeastWords x = new LeastWords();
        x.image(0);
        Hands.open(x, "marks 2;chest 1 2;chest 3 4;word:m 1=4;people 5;hire 7;lamp 0 3 9;");
        x.lamp();
        x.image(2);
        hands.due(4, "a fault", Hands.open(x, "marks 7;"), -13);
        hands.due(3, "another hall", Hands.open(x, "marks 1;spare 8;word:1=1;word:1=1;"), 4);
        Hands.open(x, "chest");
        x.restore(2);
        hands.due(48, "lines", x.count(0), 7);
        hands.due(48, "marks", x.count(1), 2);
        hands.due(48, "chests", x.count(2), 2);
        hands.due(48, "words", x.count(4), 1);
        hands.due(48, "people", x.count(6), 5);
        hands.due(48, "hire", x.count(10), 7);
        hands.due(48, "lit", x.count(8), 1);
        hands.due(48, "looks", x.mark(1, 0, true), 9);
        hands.due(48, "truths", x.chest(1, 1), 1);
        hands.due(48, "the fault stays", x.fault(0), 2);
        x.change(0, 1, 4);
        hands.due(48, "truths are learnt by its words", x.chest(0, 1), 1);
        x.restore(0);
        hands.due(48, "a new object's", x.count(2), 0);
        hands.due(48, "a new object's", x.count(0), 0);
    }

    private static void count() {
        LeastWords x = Hands.opened("marks 3;chest 1 1 1;chest 2 2 2;spare 3 3 3;word:m 0=1;word:m 0=2;hire 9;people 6;");
        x.claim(5, 1);
        x.claim(4, 2);
        x.lamp();
        x.feed(0, 0, 0, 0, 0);
        long[] due = {8, 3, 3, 2, 2, 0, 6, 0, 1, 2, 9, 3, 20};
        for (int what = 0; what < due.length; what++) {
            hands.due(49, "count(" + what + ")", x.count(what), due[what]);
        }
        x.settle();
        hands.due(49, "used", x.count(5), 1);
        for (int what : new int[] {-1, 13, Integer.MIN_VALUE, Integer.MAX_VALUE}) {
            hands.due(49, "count(" + what + ")", x.count(what), -1);
        }
    }
}
