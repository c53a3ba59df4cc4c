import java.util.NoSuchElementException;

/** Promises 1 to 8: a new object, feed, hall, fault, mark, chest, word, holds. */
public final class HallTests {
    private static final Class<NoSuchElementException> NO_SUCH = NoSuchElementException.class;
    private static final Class<IllegalArgumentException> ARGUMENT = IllegalArgumentException.class;
    private static final Hands hands = new Hands();

    public static void main(String[] args) {
        newObject();
        feed();
        hall();
        faults();
        faultAsked();
        truths();
        mark();
        chest();
        word();
        holds();
        hands.end();
    }

    private static void newObject() {
        LeastWords x = new LeastWords();
        long[] due = {0, 1, 0, 0, 0, 0, 2, -1, 0, 0, 2, 0, 0};
        for (int what = 0; what < due.length; what++) {
            hands.due(1, "count(" + what + ")", x.count(what), due[what]);
        }
        hands.due(1, "NONE", LeastWords.NONE, -1);
        for (int t = 0; t < 4; t++) {
            int tray = t;
            hands.thrown(1, "copy(" + t + ")", IllegalStateException.class, () -> x.copy(tray));
        }
        hands.thrown(1, "restore(0)", IllegalStateException.class, () -> x.restore(0));
        hands.thrown(1, "chest(0, 0)", NO_SUCH, () -> x.chest(0, 0));
        hands.thrown(1, "mark(0, 0)", NO_SUCH, () -> x.mark(0, 0, true));
        hands.thrown(1, "undo(1)", ARGUMENT, () -> x.undo(1));
    }

    private static void feed() {
        LeastWords x = new LeastWords();
        for (int i = 1; i <= 45; i++) {
            hands.due(2, "feed " + i, x.feed(0x6d61726b, 0x7320313b, 0x20202020, 0x20202020, 0x20202020), 20 * i);
        }
        hands.due(2, "feed beyond 900", x.feed(0, 0, 0, 0, 0), -1);
        hands.due(2, "bytes then", x.count(12), 900);
        hands.due(2, "the first eight are marks 1;", x.hall(8), 1);
        hands.due(2, "an empty tape", x.count(12), 0);
        // the highest byte first: "marks 3;" and a byte above 127 that begins no token
        x.feed(0x6d61726b, 0x7320333b, 0xff202020, 0, 0);
        hands.due(2, "a byte of 255", x.hall(9), -11);
        hands.due(2, "its place", x.fault(1), 8);
    }

    private static void hall() {
        LeastWords x = new LeastWords();
        hands.thrown(3, "hall(1) of nothing", ARGUMENT, () -> x.hall(1));
        x.feed(0x6d61726b, 0x7320323b, 0x20202020, 0x20202020, 0x20202020);
        hands.thrown(3, "hall(-1)", ARGUMENT, () -> x.hall(-1));
        hands.thrown(3, "hall(21)", ARGUMENT, () -> x.hall(21));
        hands.due(3, "bytes stay", x.count(12), 20);
        hands.due(3, "marks alone", x.hall(20), 1);
        hands.due(3, "marks", x.count(1), 2);
        hands.due(3, "lines", Hands.open(x, "marks 1;chest 1;spare 2;word:1=1;lamp 0 1 2;hire 3;people 4;hire 5;"), 8);
        hands.due(3, "a later hire", x.count(10), 5);
        hands.due(3, "people", x.count(6), 4);
        x.lamp();
        x.claim(3, 1);
        x.settle();
        hands.due(3, "a fault", Hands.open(x, "marks 1;chest;"), -12);
        hands.due(3, "all else stays: deeds", x.count(11), 3);
        hands.due(3, "all else stays: lit", x.count(8), 1);
        hands.due(3, "all else stays: wins", x.person(3, 1), 1);
        hands.due(3, "the tape is empty", x.count(12), 0);
        hands.due(3, "another", Hands.open(x, "marks 1;spare 4;chest 2;chest 3;word:m 0=2;people 4;"), 6);
        hands.due(3, "no deeds", x.count(11), 0);
        hands.due(3, "by day", x.count(8), 0);
        hands.due(3, "no wins", x.person(3, 1), 0);
        hands.due(3, "none used", x.count(5), 0);
        hands.due(3, "hire again", x.count(10), 2);
        hands.due(3, "the stake", x.count(7), 1);
        hands.due(3, "spare ones are out", x.count(3), 2);
    }

    private static void faults() {
        hands.fault("", 2, 0);
        hands.fault("  \n", 2, 3);
        hands.fault("Marks 1;", 1, 0);
        hands.fault("marks\t1;", 1, 5);
        hands.fault("marks 0001;", 1, 6);
        hands.fault("marks 12345;", 1, 6);
        hands.right("marks 001;", 1);
        hands.right("marks1;chest1;", 2);
        hands.right("\n marks\n2 ; chest 1\n2;\n ", 2);
        hands.fault("marks 0;", 3, 6);
        hands.fault("marks 999;", 3, 6);
        hands.fault("marks;", 2, 5);
        hands.fault("marks 1", 2, 7);
        hands.fault("marks 1  ", 2, 9);
        hands.fault("marks 1; ;", 2, 9);
        hands.fault("marks 1;chests 1;", 2, 8);
        hands.fault("marks 1;chest 1 !", 1, 16);
        hands.fault("marks 2;chest 1 10;", 3, 16);
        hands.fault("marks 2;chest 1 2 10;", 2, 18);
        hands.fault("marks 2;chest 1 2 1000;", 1, 18);
        hands.fault("marks 1;word cost 1 sound:1=1;", 2, 20);
        hands.fault("marks 1;word cost 10:1=1;", 3, 18);
        hands.fault("marks 1;word cost:1=1;", 2, 17);
        hands.fault("marks 1;word:;", 2, 13);
        hands.fault("marks 1;word:1=1=1;", 2, 16);
        hands.fault("marks 1;word:[1=1;", 2, 17);
        hands.fault("marks 1;word:1=1];", 2, 16);
        hands.fault("marks 1;word:(1=1);", 2, 15);
        hands.fault("marks 1;word:[1]=1;", 2, 15);
        hands.fault("marks 1;word:1=-1;", 2, 15);
        hands.fault("marks 1;word:not;", 2, 16);
        hands.fault("marks 1;word:1=1 or;", 2, 19);
        hands.fault("marks 1;word:m=1;", 2, 14);
        hands.fault("marks 1;word:has sum=1;", 2, 17);
        hands.fault("marks 3;word:m 3=1;", 3, 15);
        hands.fault("marks 1;word:has 10=1;", 3, 17);
        hands.fault("marks 2;lamp 2 1 1;", 3, 13);
        hands.fault("marks 1;lamp 0 10 1;", 3, 15);
        hands.fault("marks 1;lamp 0 1;", 2, 16);
        hands.fault("marks 1;lamp 0 1 10;", 3, 17);
        hands.fault("marks 1;hire;", 2, 12);
        hands.fault("marks 1;people 7;", 3, 15);
        hands.fault("marks 1;word:((((((1))))))=1;word:(((((((1)))))))=1;", 4, 40);
        hands.fault("marks 1;word:not[not[[(1)=1 and((1))=1]]];", 4, 32);
        hands.right("marks 1;word:not[not[not[1=1 and 1=1]]]and not[[[[(1)=1]]]];", 2);
        hands.right("marks 1;word:(1)=(1)+(1)*(1)or(1)<(1)and[(1)>(1)]or not(1)=(1);", 2);
        hands.right("marks 6;word:m 5+has 9-sum*alike<number;", 2);
        limits();
    }

    private static void limits() {
        String chests = "marks 1;" + "chest 1;".repeat(7) + "spare 1;".repeat(7);
        hands.right(chests, 15);
        hands.fault(chests + "spare 1;", 4, 8 + 14 * 8);
        hands.fault(chests + "chest", 4, 8 + 14 * 8);
        String words = "marks 1;" + "word:1=1;".repeat(10);
        hands.right(words, 11);
        hands.fault(words + "word", 4, 8 + 10 * 9);
        String lamps = "marks 1;" + "lamp 0 1 2;".repeat(8);
        hands.right(lamps, 9);
        hands.fault(lamps + "lamp 0 1 2;", 4, 8 + 8 * 11);
        String longest = "marks 1;word:" + "1+".repeat(440) + "1=441;";
        hands.due(3, "900 bytes", longest.length(), 900 - 1);
        LeastWords x = new LeastWords();
        hands.due(3, "a text of 899 bytes", Hands.open(x, longest), 2);
    }

    private static void faultAsked() {
        LeastWords x = new LeastWords();
        hands.due(4, "fault(0) at first", x.fault(0), 0);
        hands.due(4, "fault(1) at first", x.fault(1), -1);
        Hands.open(x, "marks 9;");
        hands.due(4, "fault(0)", x.fault(0), 3);
        hands.due(4, "fault(2)", x.fault(2), -1);
        hands.due(4, "fault(-1)", x.fault(-1), -1);
        hands.thrown(4, "hall(1)", ARGUMENT, () -> x.hall(1));
        hands.due(4, "fault(1) after a throw", x.fault(1), 6);
        Hands.open(x, "marks 1;");
        hands.due(4, "fault(0) without", x.fault(0), 0);
        hands.due(4, "fault(1) without", x.fault(1), -1);
    }

    private static void truth(String text, boolean due) {
        LeastWords x = Hands.opened("marks 4;spare 9 9 9 9;chest 2 5 2 7;word:" + text + ";");
        hands.due(8, text, x.holds(0, 1, false) ? 1 : 0, due ? 1 : 0);
    }

    private static void truths() {
        truth("m 0=2 and m 1=5 and m 2=2 and m 3=7", true);
        truth("sum=16", true);
        truth("alike=1", true);
        truth("number=1", true);
        truth("has 5=1", true);
        truth("has 9=0", true);
        truth("has 7+has 2=2", true);
        truth("1=2 or 1=1 and 1=2", false);
        truth("1=1 or 1=1 and 1=2", true);
        truth("[1=1 or 1=1]and 1=2", false);
        truth("not 1=2 and 1=2", false);
        truth("not[1=2 and 1=2]", true);
        truth("not not 1=1", true);
        truth("2+3*4=14", true);
        truth("(2+3)*4=20", true);
        truth("9-3-2=4", true);
        truth("9-(3-2)=8", true);
        truth("3-5<0", true);
        truth("3-5>0", false);
        truth("5>5", false);
        truth("5<5", false);
        truth("999*999*999=999*999*998", true);
        truth("999*999*999-1=999*999*1-0", false);
        truth("(0-999)*999*999+999*999*999=0", true);
        truth("999*999*999*999-999*999-999-999-1=0", true);
        truth("(0-999)*999*2-1=(0-999)*999*3", true);
        LeastWords x = Hands.opened("marks 6;chest 3 3 3 4 4 5;chest 1 1 1 1 1 1;word:alike=4;word:alike=15;");
        hands.due(8, "three alike and two alike", x.chest(0, 1), 1);
        hands.due(8, "six alike", x.chest(1, 1), 2);
    }

    private static void mark() {
        LeastWords x = Hands.opened("marks 2;chest 1 2;spare 3 1;lamp 0 1 7;lamp 0 1 8;lamp 1 2 2;lamp 0 7 5;lamp 1 2 9;");
        hands.due(5, "by day", x.mark(0, 0, true), 1);
        x.lamp();
        hands.due(5, "by lamp: the first counts, and is not looked at again", x.mark(0, 0, true), 7);
        hands.due(5, "what it is", x.mark(0, 0, false), 1);
        hands.due(5, "a lamp that shows the same", x.mark(0, 1, true), 2);
        hands.due(5, "of a spare one", x.mark(1, 1, true), 1);
        LeastWords zero = Hands.opened("marks 1;chest 0;lamp 0 0 3;lamp 0 0 4;");
        zero.lamp();
        hands.due(5, "0 looks as 3", zero.mark(0, 0, true), 3);
        hands.thrown(5, "mark(2, 0)", NO_SUCH, () -> x.mark(2, 0, false));
        hands.thrown(5, "mark(-1, 0)", NO_SUCH, () -> x.mark(-1, 0, false));
        hands.thrown(5, "mark(0, 2)", NO_SUCH, () -> x.mark(0, 2, false));
        hands.thrown(5, "mark(0, -1)", NO_SUCH, () -> x.mark(0, -1, false));
    }

    private static void chest() {
        LeastWords x = Hands.opened("marks 1;chest 1;chest 2;spare 1;chest 1;word:m 0=1;word:m 0<3;lamp 0 1 2;");
        hands.due(6, "in", x.chest(0, 0), 1);
        hands.due(6, "out", x.chest(2, 0), 0);
        hands.due(6, "words", x.chest(0, 1), 3);
        hands.due(6, "words of another", x.chest(1, 1), 2);
        hands.due(6, "alike in the hall", x.chest(0, 2), 1);
        hands.due(6, "alike to one that is out", x.chest(2, 2), 2);
        hands.due(6, "alike to none", x.chest(1, 2), 0);
        x.lamp();
        hands.due(6, "words by lamp", x.chest(0, 1), 2);
        hands.due(6, "alike by lamp", x.chest(1, 2), 2);
        hands.thrown(6, "chest(4, 9)", NO_SUCH, () -> x.chest(4, 9));
        hands.thrown(6, "chest(0, 3)", ARGUMENT, () -> x.chest(0, 3));
        hands.thrown(6, "chest(0, -1)", ARGUMENT, () -> x.chest(0, -1));
        hands.due(6, "without words all are alike", Hands.opened("marks 1;chest 1;chest 2;").chest(0, 2), 1);
    }

    private static void word() {
        LeastWords x = Hands.opened("marks 1;chest 1;chest 2;spare 1;word sound cost 9:m 0=1;word:m 0>0;");
        hands.due(7, "cost", x.word(0, 0), 9);
        hands.due(7, "cost untold", x.word(1, 0), 1);
        hands.due(7, "sound", x.word(0, 1), 1);
        hands.due(7, "not sound", x.word(1, 1), 0);
        hands.due(7, "not used", x.word(0, 2), 0);
        hands.due(7, "holds for, in the hall", x.word(0, 3), 1);
        hands.due(7, "holds for all in the hall", x.word(1, 3), 3);
        x.claim(0, 1);
        x.settle();
        hands.due(7, "used", x.word(0, 2), 1);
        hands.due(7, "the other isn't", x.word(1, 2), 0);
        hands.due(7, "holds for none then", x.word(0, 3), 0);
        hands.thrown(7, "word(2, 9)", NO_SUCH, () -> x.word(2, 9));
        hands.thrown(7, "word(-1, 0)", NO_SUCH, () -> x.word(-1, 0));
        hands.thrown(7, "word(0, 4)", ARGUMENT, () -> x.word(0, 4));
    }

    private static void holds() {
        LeastWords x = Hands.opened("marks 2;chest 3 1;spare 1 1;word:m 0=1;word:number=1;word:alike=1;lamp 0 3 1;");
        hands.due(8, "by day", x.holds(0, 0, false) ? 1 : 0, 0);
        hands.due(8, "by lamp, though it is day", x.holds(0, 0, true) ? 1 : 0, 1);
        hands.due(8, "alike by lamp", x.holds(2, 0, true) ? 1 : 0, 1);
        x.lamp();
        hands.due(8, "by day, though it is lit", x.holds(0, 0, false) ? 1 : 0, 0);
        hands.due(8, "a spare one's number", x.holds(1, 1, false) ? 1 : 0, 1);
        hands.thrown(8, "holds(3, 0)", NO_SUCH, () -> x.holds(3, 0, true));
        hands.thrown(8, "holds(0, 2)", NO_SUCH, () -> x.holds(0, 2, true));
    }
}
