import java.util.NoSuchElementException;

/** Promises 44 to 49 at their bounds: no places and thirty, the widest numbers and one beyond, images over one another. */
public final class TrayEdges {
    private static final Class<NoSuchElementException> NO_SUCH = NoSuchElementException.class;
    private static final Class<IllegalStateException> STATE = IllegalStateException.class;
    private static final Class<IllegalArgumentException> ARGUMENT = IllegalArgumentException.class;
    private static final Class<IndexOutOfBoundsException> PLACE = IndexOutOfBoundsException.class;
    private static final Hands hands = new Hands();
    private static final int LOW = Integer.MIN_VALUE;
    private static final int HIGH = Integer.MAX_VALUE;

    public static void main(String[] args) {
        trays();
        trayOverTray();
        widths();
        places();
        copy();
        copyIntoNarrow();
        images();
        imageKeeps();
        imageDeeds();
        imageLeavesTheRest();
        imagesOverImages();
        count();
        countMost();
        hands.end();
    }

    private static void trays() {
        LeastWords x = new LeastWords();
        for (int tray : new int[] {LOW, -1, 4, HIGH}) {
            hands.thrown(44, "tray " + tray, NO_SUCH, () -> x.tray(tray, 0, 0));
            hands.thrown(44, "tray " + tray + ", no sort, not so many", NO_SUCH, () -> x.tray(tray, 9, 99));
        }
        for (int sort : new int[] {LOW, -1, 4, HIGH}) {
            hands.thrown(44, "sort " + sort, ARGUMENT, () -> x.tray(0, sort, 0));
        }
        for (int many : new int[] {LOW, -1, 31, HIGH}) {
            hands.thrown(44, "many " + many, ARGUMENT, () -> x.tray(0, 0, many));
        }
        hands.thrown(44, "still missing", STATE, () -> x.write(0, 0, 0));
        for (int tray = 0; tray < 4; tray++) {
            for (int sort = 0; sort < 4; sort++) {
                for (int many : new int[] {0, 1, 29, 30}) {
                    row(x, tray, sort, many);
                }
            }
        }
    }

    private static void row(LeastWords x, int tray, int sort, int many) {
        String of = "tray " + tray + ", sort " + sort + ", many " + many;
        x.tray(tray, sort, many);
        if (many > 0) {
            hands.due(44, of + ": the first place", x.write(tray, 0, 5), 5);
            hands.due(44, of + ": the last place", x.write(tray, many - 1, 6), 6);
        }
        hands.thrown(44, of + ": behind the last", PLACE, () -> x.write(tray, many, 7));
        hands.thrown(44, of + ": ahead of the first", PLACE, () -> x.write(tray, -1, 7));
    }

    private static void trayOverTray() {
        LeastWords x = Hands.opened("marks 1;chest 7;");
        x.tray(0, 1, 30);
        for (int i = 0; i < 30; i++) {
            x.write(0, i, 3000);
        }
        x.tray(0, 1, 30);
        hands.due(44, "thirty 0s", x.perform(0), 30);
        hands.due(44, "a 0 makes the mark 0", x.mark(0, 0, false), 0);
        hands.due(44, "a 0 is no lamp", x.count(8), 0);
        x.write(0, 0, 3000);
        hands.thrown(44, "a row that is none", ARGUMENT, () -> x.tray(0, 3, 31));
        hands.due(44, "leaves that which was", x.judge(0, 0), -1);
        hands.due(44, "and its sort", x.write(0, 29, 65536 + 3000), 3000);
        x.tray(0, 0, 1);
        hands.due(44, "another sort", x.write(0, 0, 3000), -72);
        hands.thrown(44, "fewer places", PLACE, () -> x.write(0, 1, 0));
        x.tray(0, 3, 30);
        hands.due(44, "0s where there were others", x.judge(0, 0), -1);
    }

    private static void widths() {
        LeastWords x = new LeastWords();
        for (int sort = 0; sort < 4; sort++) {
            int bits = 8 << sort;
            long most = Long.MAX_VALUE >> 64 - bits;
            long least = -most - 1;
            x.tray(0, sort, 1);
            hands.due(45, "the most of " + bits, x.write(0, 0, most), most);
            hands.due(45, "the least of " + bits, x.write(0, 0, least), least);
            hands.due(45, "one more wraps around, " + bits, x.write(0, 0, most + 1), least);
            hands.due(45, "one less wraps around, " + bits, x.write(0, 0, least - 1), most);
            hands.due(45, "0 of " + bits, x.write(0, 0, 0), 0);
            hands.due(45, "NONE of " + bits, x.write(0, 0, -1), -1);
            hands.due(45, "the most of all in " + bits, x.write(0, 0, Long.MAX_VALUE), sort == 3 ? Long.MAX_VALUE : -1);
            hands.due(45, "the least of all in " + bits, x.write(0, 0, Long.MIN_VALUE), sort == 3 ? Long.MIN_VALUE : 0);
        }
        x.tray(1, 0, 1);
        hands.due(45, "256 in 8 bits", x.write(1, 0, 256), 0);
        hands.due(45, "255 in 8 bits", x.write(1, 0, 255), -1);
        x.tray(1, 1, 1);
        hands.due(45, "65536 in 16 bits", x.write(1, 0, 65536), 0);
        hands.due(45, "65535 in 16 bits", x.write(1, 0, 65535), -1);
        x.tray(1, 2, 1);
        hands.due(45, "2^32 in 32 bits", x.write(1, 0, 1L << 32), 0);
        hands.due(45, "2^32 - 1 in 32 bits", x.write(1, 0, (1L << 32) - 1), -1);
    }

    private static void places() {
        LeastWords x = Hands.opened("marks 1;chest 1;");
        for (int tray : new int[] {LOW, -1, 4, HIGH}) {
            hands.thrown(45, "tray " + tray, NO_SUCH, () -> x.write(tray, 0, 0));
        }
        hands.thrown(45, "missing", STATE, () -> x.write(3, 0, 0));
        hands.thrown(45, "missing, no place", STATE, () -> x.write(3, 30, 0));
        x.tray(3, 2, 30);
        for (int i = 0; i < 30; i++) {
            hands.due(45, "place " + i, x.write(3, i, i % 10), i % 10);
        }
        for (int place : new int[] {LOW, -1, 30, 31, HIGH}) {
            hands.thrown(45, "place " + place, PLACE, () -> x.write(3, place, 1400));
        }
        hands.due(45, "all as they were written", x.judge(3, 0), -1);
        x.write(3, 17, 1400);
        hands.due(45, "one place alone", x.judge(3, 0), 17);
        hands.due(45, "a later one strikes", x.write(3, 17, 7), 7);
        hands.due(45, "a later one strikes", x.judge(3, 0), -1);
    }

    private static void copy() {
        LeastWords x = Hands.opened("marks 1;" + "chest 1;".repeat(14));
        for (int tray : new int[] {LOW, -1, 4, HIGH}) {
            hands.thrown(46, "tray " + tray, NO_SUCH, () -> x.copy(tray));
        }
        hands.thrown(46, "missing", STATE, () -> x.copy(0));
        for (int many : new int[] {0, 1, 13, 14, 15, 30}) {
            x.tray(0, 1, many);
            hands.due(46, "fourteen into " + many, x.copy(0), Math.min(many, 14));
        }
        // told deeds 0 to 13: marks 0 to 9 of a chest, then no such marks; 16 lamps stay behind them
        for (int i = 0; i < 30; i++) {
            x.write(0, i, 3000);
        }
        x.copy(0);
        hands.due(46, "the first ten, as told deeds", x.judge(0, 0), 10);
        hands.due(46, "as told deeds", x.perform(0), 10);
        hands.due(46, "the tenth is 9", x.mark(0, 0, false), 9);
        for (int i = 10; i < 14; i++) {
            x.write(0, i, 3000);
        }
        hands.due(46, "those behind stay", x.perform(0), 30);
        hands.due(46, "a copy is no deed of its own", x.undo(10), 0);
    }

    private static void copyIntoNarrow() {
        LeastWords x = Hands.opened("marks 1;spare 1;chest 1;" + "spare 1;".repeat(7) + "chest 1;spare 1;chest 1;");
        x.tray(2, 0, 2);
        hands.due(46, "three into two", x.copy(2), 2);
        x.perform(2);
        hands.due(46, "the last of two is 9", x.mark(0, 0, false), 9);
        Hands.fill(x, 2, 0, 3, 3, 3, 4);
        hands.due(46, "three into four", x.copy(2), 3);
        hands.due(46, "the third is 11, no mark", x.judge(2, 0), 2);
        x.write(2, 2, 2);
        x.perform(2);
        hands.due(46, "the fourth stays", x.mark(0, 0, false), 4);
        x.carry(1);
        x.carry(9);
        x.carry(11);
        hands.due(46, "none is in", x.copy(2), 0);
        hands.due(46, "nothing comes", x.judge(2, 0), -1);
        hands.due(46, "no chests", emptyCopy(), 0);
    }

    private static int emptyCopy() {
        LeastWords x = new LeastWords();
        x.tray(0, 0, 30);
        return x.copy(0);
    }

    private static void images() {
        LeastWords x = new LeastWords();
        for (int i : new int[] {LOW, -1, 3, HIGH}) {
            hands.thrown(47, "image(" + i + ")", NO_SUCH, () -> x.image(i));
            hands.thrown(48, "restore(" + i + ")", NO_SUCH, () -> x.restore(i));
        }
        for (int i = 0; i < 3; i++) {
            int image = i;
            hands.thrown(48, "restore(" + i + "), none made", STATE, () -> x.restore(image));
        }
        x.lamp();
        x.image(2);
        x.lamp();
        x.restore(2);
        hands.due(48, "lit, as it was", x.count(8), 1);
        hands.thrown(48, "image 0 was not made", STATE, () -> x.restore(0));
        hands.thrown(48, "image 1 was not made", STATE, () -> x.restore(1));
    }

    /** All that there is but the tape, the FAULT and TRAYS is as it was. */
    private static void imageKeeps() {
        Start kept = new Start(() -> {
            LeastWords x = Start.FULL.made.get();
            x.image(1);
            return x;
        });
        hands.unchanged(47, "an image changes nothing but itself", kept, x -> x.image(1));
        hands.unchanged(48, "restored at once", kept, x -> x.restore(1));
        hands.unchanged(48, "restored behind deeds", kept, x -> {
            x.settle();
            x.stake(4);
            x.carry(0);
            x.change(0, 0, 9);
            x.lamp();
            x.claim(1, 0);
            x.restore(1);
        });
        hands.unchanged(48, "restored behind nights", kept, x -> {
            x.night(5, 30);
            x.night(6, 30);
            x.undo(3);
            x.restore(1);
        });
        hands.unchanged(48, "restored behind another image", kept, x -> {
            x.restore(2);
            x.lamp();
            x.restore(0);
            x.undo(2);
            x.restore(1);
        });
    }

    private static void imageDeeds() {
        LeastWords x = Hands.opened("marks 1;chest 0;");
        for (int v = 1; v <= 12; v++) {
            x.change(0, 0, v % 10);
        }
        x.image(0);
        x.undo(10);
        hands.due(28, "none is left", x.count(11), 0);
        x.restore(0);
        hands.due(48, "ten again", x.count(11), 10);
        hands.due(48, "they can be undone", x.undo(10), 0);
        hands.due(48, "to behind the second", x.mark(0, 0, false), 2);
        x.restore(0);
        x.change(0, 0, 7);
        x.restore(0);
        hands.due(48, "what is done behind an image is none of its own", x.undo(1), 9);
        hands.due(48, "the last of its own is undone", x.mark(0, 0, false), 1);
        LeastWords first = new LeastWords();
        first.image(0);
        first.lamp();
        first.restore(0);
        hands.due(48, "restoring is no deed", first.count(11), 0);
        hands.thrown(48, "none can be undone", ARGUMENT, () -> first.undo(1));
    }

    private static void imageLeavesTheRest() {
        LeastWords x = Hands.opened("marks 1;chest 1;");
        x.tray(0, 1, 1);
        x.write(0, 0, 3000);
        x.image(0);
        x.tray(1, 3, 30);
        x.write(0, 0, 1400);
        Hands.open(x, "marks 0;");
        x.feed(0x6d61726b, 0x7320313b, 0, 0, 0);
        x.restore(0);
        hands.due(48, "the tape stays", x.count(12), 20);
        hands.due(48, "the fault stays", x.fault(0), 3);
        hands.due(48, "its place stays", x.fault(1), 6);
        hands.due(48, "a tray that was missing stays", x.write(1, 29, 1), 1);
        hands.due(48, "a tray stays as written", x.judge(0, 0), 0);
        hands.due(48, "the tape can be read", x.hall(8), 1);
        hands.due(3, "a hall leaves images", x.count(2), 0);
        x.restore(0);
        hands.due(48, "the hall ahead of it", x.count(2), 1);
    }

    private static void imagesOverImages() {
        LeastWords x = Hands.opened("marks 1;chest 1;");
        for (int i = 0; i < 3; i++) {
            x.change(0, 0, i);
            x.image(i);
        }
        for (int i = 2; i >= 0; i--) {
            x.restore(i);
            hands.due(48, "each its own", x.mark(0, 0, false), i);
        }
        x.change(0, 0, 9);
        x.image(1);
        x.restore(0);
        x.restore(1);
        hands.due(47, "the later one strikes", x.mark(0, 0, false), 9);
        x.restore(2);
        hands.due(47, "others stay", x.mark(0, 0, false), 2);
        x.restore(2);
        hands.due(48, "again and again", x.mark(0, 0, false), 2);
    }

    private static void count() {
        LeastWords x = new LeastWords();
        for (int what : new int[] {LOW, -2, -1, 13, 14, HIGH}) {
            hands.due(49, "count(" + what + ")", x.count(what), -1);
        }
        long[] due = {0, 1, 0, 0, 0, 0, 2, -1, 0, 0, 2, 0, 0};
        for (int what = 0; what < due.length; what++) {
            hands.due(49, "at first, count(" + what + ")", x.count(what), due[what]);
        }
        Hands.open(x, "marks 1;hire 0;people 1;");
        hands.due(49, "no hire", x.count(10), 0);
        hands.due(49, "one person", x.count(6), 1);
        hands.due(49, "lines", x.count(0), 3);
    }

    private static void countMost() {
        LeastWords x = Hands.opened("marks 6;" + "chest 1 1 1 1 1 1;".repeat(13) + "spare 2 2 2 2 2 2;" + "word:m 0=2;".repeat(10)
            + "lamp 0 1 2;".repeat(8) + "hire 9;people 6;");
        x.carry(13);
        x.stake(13);
        x.claim(0, 1023);
        x.settle();
        x.lamp();
        for (int p = 0; p < 6; p++) {
            x.claim(p, 0);
        }
        for (int i = 0; i < 45; i++) {
            x.feed(0, 0, 0, 0, 0);
        }
        long[] due = {35, 6, 14, 13, 10, 10, 6, 0, 1, 6, 9, 10, 900};
        for (int what = 0; what < due.length; what++) {
            hands.due(49, "count(" + what + ")", x.count(what), due[what]);
        }
    }
}
