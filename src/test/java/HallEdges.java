import java.util.NoSuchElementException;

/** Promises 1 to 8 and THE HALL at their bounds: the least and the most that is taken, one beyond, empty, full. */
public final class HallEdges {
    private static final Class<NoSuchElementException> NO_SUCH = NoSuchElementException.class;
    private static final Class<IllegalStateException> STATE = IllegalStateException.class;
    private static final Class<IllegalArgumentException> ARGUMENT = IllegalArgumentException.class;
    private static final Hands hands = new Hands();
    /** 900 bytes, the last of which is needed: 128 LINES. */
    private static final String WHOLE = "marks 1;" + "hire 1;".repeat(126) + " people 3;";

    public static void main(String[] args) {
        newObject();
        feed();
        hallOfSoMany();
        hallOfThePart();
        faultsChangeNothing();
        marksTold();
        chestsTold();
        wordsTold();
        lampsHirePeople();
        atoms();
        nested();
        nestedAnew();
        endOfText();
        marksFirst();
        tokens();
        allSigns();
        leastKind();
        firstAlong();
        faultAsked();
        lampLooks();
        mark();
        chest();
        word();
        holds();
        hands.end();
    }

    private static void newObject() {
        LeastWords x = new LeastWords();
        hands.due(1, "1 mark", x.count(1), 1);
        hands.due(1, "no chests", x.count(2), 0);
        hands.due(1, "no words", x.count(4), 0);
        hands.due(1, "an empty tape", x.count(12), 0);
        for (int tray = 0; tray < 4; tray++) {
            int t = tray;
            hands.thrown(1, "tray " + t + " is missing: judge", STATE, () -> x.judge(t, 0));
            hands.thrown(1, "tray " + t + " is missing: perform", STATE, () -> x.perform(t));
            hands.thrown(1, "tray " + t + " is missing: write", STATE, () -> x.write(t, 0, 0));
            hands.thrown(1, "tray " + t + " is missing: copy", STATE, () -> x.copy(t));
        }
        hands.due(1, "an empty tape: nothing to read", x.hall(0), -12);
        hands.thrown(1, "an empty tape: not one byte", ARGUMENT, () -> x.hall(1));
        hands.due(1, "no description but that of nothing", x.fits(0), 0);
        // what one object does is nothing to another
        LeastWords other = new LeastWords();
        Hands.open(other, WHOLE);
        other.tray(0, 0, 1);
        other.image(0);
        other.feed(1, 2, 3, 4, 5);
        hands.due(1, "its own hall", x.count(0), 0);
        hands.due(1, "its own tape", x.count(12), 0);
        hands.thrown(1, "its own trays", STATE, () -> x.copy(0));
        hands.thrown(1, "its own images", STATE, () -> x.restore(0));
    }

    private static void feed() {
        hands.due(2, "the text has 900 bytes", WHOLE.length(), 900);
        LeastWords x = new LeastWords();
        int[] four = new int[225];
        for (int i = 0; i < 900; i++) {
            four[i / 4] |= WHOLE.charAt(i) << 24 - 8 * (i % 4);
        }
        for (int i = 0; i < 225; i += 5) {
            hands.due(2, "bytes then", x.feed(four[i], four[i + 1], four[i + 2], four[i + 3], four[i + 4]), 4 * i + 20);
        }
        hands.due(2, "a feed too many", x.feed(four[0], four[1], four[2], four[3], four[4]), -1);
        hands.due(2, "nothing changes: how many", x.count(12), 900);
        hands.due(2, "nothing changes: the text", x.hall(900), 128);
        hands.due(2, "from nothing again", x.feed(four[0], four[1], four[2], four[3], four[4]), 20);
        hands.due(2, "the last byte of the tape counts", Hands.open(new LeastWords(), WHOLE), 128);
        // bytes of 0 and of 255 are bytes, too: the highest of the first int, the least of the last
        LeastWords y = new LeastWords();
        y.feed(0xff000000, 0, 0, 0, 0);
        hands.due(2, "a byte of 255 is no token", y.hall(20), -11);
        hands.due(2, "it is the first", y.fault(1), 0);
        y.feed(0x6d61726b, 0x7320313b, 0x20202020, 0x20202020, 0x20202000);
        hands.due(2, "a byte of 0 is no token", y.hall(20), -11);
        hands.due(2, "it is the last", y.fault(1), 19);
    }

    private static void hallOfSoMany() {
        LeastWords x = new LeastWords();
        x.feed(0x6d61726b, 0x7320313b, 0x68697265, 0x20373b21, 0x21212121);
        hands.thrown(3, "hall(-1)", ARGUMENT, () -> x.hall(-1));
        hands.thrown(3, "hall(21) of 20", ARGUMENT, () -> x.hall(21));
        hands.due(3, "hall(15) of 20", x.hall(15), 2);
        hands.due(3, "what was behind is gone, too", x.count(12), 0);
        hands.thrown(3, "none is left", ARGUMENT, () -> x.hall(1));
        x.feed(0x6d61726b, 0x7320313b, 0x68697265, 0x20373b21, 0x21212121);
        hands.due(3, "hall(20) of 20", x.hall(20), -11);
        hands.due(3, "at the first that is wrong", x.fault(1), 15);
        x.feed(0x6d61726b, 0x7320313b, 0x68697265, 0x20373b21, 0x21212121);
        hands.due(3, "hall(0) of 20: the end at once", x.hall(0), -12);
        hands.due(3, "hall(0) empties the tape, too", x.count(12), 0);
        LeastWords y = new LeastWords();
        for (int i = 0; i < 45; i++) {
            y.feed(0x20202020, 0x20202020, 0x20202020, 0x20202020, 0x20202020);
        }
        hands.thrown(3, "hall(901) of 900", ARGUMENT, () -> y.hall(901));
        hands.due(3, "900 blanks", y.hall(900), -12);
        hands.due(3, "their end", y.fault(1), 900);
        hands.fault(WHOLE.substring(0, 899), 2, 899);
        hands.right("marks 1;", 1);
    }

    /** What stands behind the first n bytes is none of the text, though a TOKEN would go on there. */
    private static void hallOfThePart(String part, String behind, int answer, int place) {
        LeastWords x = new LeastWords();
        Hands.open(x, "marks 1;");
        Hands.feedText(x, part + behind);
        hands.due(3, part + ", " + behind + " behind it", x.hall(part.length()), answer);
        hands.due(4, part + ", " + behind + " behind it", x.fault(1), place);
    }

    private static void hallOfThePart() {
        hallOfThePart("marks 1;", ";", 1, -1);
        hallOfThePart("marks 1;", "!", 1, -1);
        hallOfThePart("marks 1;", "chest 1;", 1, -1);
        hallOfThePart("mark", "s 1;", -12, 0);
        hallOfThePart("marks 1", ";", -12, 7);
        hallOfThePart("marks 1", "2;", -12, 7);
        hallOfThePart("marks 1;chest 9", "9;", -12, 15);
        hallOfThePart("marks 1;chest 999", "9;", -13, 14);
        hallOfThePart("marks 1;word:1=1 and", "y 1=1;", -12, 20);
        hallOfThePart("marks 1;word:m", "m 0=1;", -12, 14);
        hallOfThePart("marks 1;word:1=1 ", "or 1=1;", -12, 17);
        hallOfThePart("marks 1;word:1=1 o", "r 1=1;", -12, 17);
        hallOfThePart("marks 1; ", " ", 1, -1);
    }

    private static void faultsChangeNothing() {
        String[] wrong = {"marks 1;!", "marks 1;chest 2;chest;", "marks 3;hire 9;people 6;lamp 0 1 10;",
            "marks 1;" + "chest 9;".repeat(15)};
        for (int i = 0; i < wrong.length; i++) {
            String text = wrong[i];
            Start due = new Start(() -> {
                LeastWords x = Start.FULL.made.get();
                x.hall(0);
                // a text of one blank has the FAULT 2 at 1, and leaves all else
                Hands.open(x, " ");
                return x;
            });
            hands.unchanged(3, "a fault " + (i + 1) + " and then another", due, x -> {
                Hands.open(x, text);
                Hands.open(x, " ");
            });
            LeastWords x = Start.FULL.made.get();
            x.hall(0);
            hands.due(3, "a fault", Hands.open(x, text), -11 - i);
            hands.due(4, "the fault", x.fault(0), 1 + i);
        }
    }

    private static void marksTold() {
        hands.fault("marks 0;", 3, 6);
        hands.right("marks 1;", 1);
        hands.right("marks 6;", 1);
        hands.fault("marks 7;", 3, 6);
        hands.fault("marks 000;", 3, 6);
        hands.right("marks 006;", 1);
        hands.fault("marks 007;", 3, 6);
        hands.fault("marks 999;", 3, 6);
        hands.due(49, "marks", Hands.opened("marks 1;").count(1), 1);
        hands.due(49, "marks", Hands.opened("marks 6;").count(1), 6);
    }

    private static void chestsTold() {
        for (String line : new String[] {"chest", "spare"}) {
            hands.right("marks 1;" + line + " 0;", 2);
            hands.right("marks 1;" + line + " 9;", 2);
            hands.fault("marks 1;" + line + " 10;", 3, 14);
            hands.right("marks 1;" + line + " 009;", 2);
            hands.fault("marks 1;" + line + " 010;", 3, 14);
            hands.fault("marks 1;" + line + " 999;", 3, 14);
            hands.fault("marks 1;" + line + ";", 2, 13);
            hands.fault("marks 1;" + line + " 1 1;", 2, 16);
            hands.right("marks 6;" + line + " 0 9 0 9 0 9;", 2);
            hands.fault("marks 6;" + line + " 0 9 0 9 0;", 2, 23);
            hands.fault("marks 6;" + line + " 0 9 0 9 0 9 0;", 2, 26);
            hands.fault("marks 6;" + line + " 0 9 0 9 0 10;", 3, 24);
            hands.fault("marks 6;" + line + " 0 9 0 9 0 9", 2, 25);
        }
        String chests = "marks 1;" + "chest 1;".repeat(14);
        hands.right(chests, 15);
        hands.fault(chests + "chest 1;", 4, 120);
        hands.fault(chests + "  spare 1;", 4, 122);
        String spares = "marks 1;" + "spare 1;".repeat(14);
        hands.right(spares, 15);
        hands.right(spares + "hire 1;", 16);
        hands.fault(spares + "spare 1;", 4, 120);
        hands.fault(spares + "chest 10;", 4, 120);
        hands.right("marks 1;" + "chest 1;".repeat(13) + "spare 1;", 15);
        LeastWords x = Hands.opened("marks 1;spare 1;" + "chest 1;".repeat(13));
        hands.due(49, "chests", x.count(2), 14);
        hands.due(49, "those in", x.count(3), 13);
        hands.due(49, "the stake is the first that is in", x.count(7), 1);
    }

    private static void wordsTold() {
        hands.fault("marks 1;word cost 0:1=1;", 3, 18);
        hands.right("marks 1;word cost 1:1=1;", 2);
        hands.right("marks 1;word cost 9:1=1;", 2);
        hands.fault("marks 1;word cost 10:1=1;", 3, 18);
        hands.fault("marks 1;word cost:1=1;", 2, 17);
        hands.fault("marks 1;word cost 1 cost 1:1=1;", 2, 20);
        hands.fault("marks 1;word sound sound:1=1;", 2, 19);
        hands.fault("marks 1;word cost 1 sound:1=1;", 2, 20);
        hands.right("marks 1;word sound cost 1:1=1;", 2);
        hands.fault("marks 1;word:;", 2, 13);
        hands.fault("marks 1;word:1=1 and;", 2, 20);
        hands.fault("marks 1;word:1=1 or or 1=1;", 2, 20);
        hands.fault("marks 1;word:1=1 1=1;", 2, 17);
        hands.fault("marks 1;word:1+;", 2, 15);
        hands.fault("marks 1;word:+1=1;", 2, 13);
        hands.fault("marks 1;word:1**1=1;", 2, 15);
        hands.fault("marks 1;word:[];", 2, 14);
        hands.fault("marks 1;word:()=1;", 2, 14);
        hands.fault("marks 1;word:1=<1;", 2, 15);
        String words = "marks 1;" + "word:1=1;".repeat(10);
        hands.right(words, 11);
        hands.right(words + "chest 1;", 12);
        hands.fault(words + "word:1=1;", 4, 98);
        hands.fault(words + "\nword sound cost 0", 4, 99);
    }

    private static void lampsHirePeople() {
        hands.right("marks 1;lamp 0 0 0;", 2);
        hands.right("marks 6;lamp 5 9 9;", 2);
        hands.fault("marks 6;lamp 6 9 9;", 3, 13);
        hands.fault("marks 1;lamp 1 9 9;", 3, 13);
        hands.fault("marks 1;lamp 0 10 0;", 3, 15);
        hands.fault("marks 1;lamp 0 0 10;", 3, 17);
        hands.fault("marks 1;lamp;", 2, 12);
        hands.fault("marks 1;lamp 0 0;", 2, 16);
        hands.fault("marks 1;lamp 0 0 0 0;", 2, 19);
        String lamps = "marks 1;" + "lamp 0 1 2;".repeat(8);
        hands.right(lamps, 9);
        hands.right(lamps + "people 1;", 10);
        hands.fault(lamps + "lamp 0 1 2;", 4, 96);
        hands.fault(lamps + "lamp 9", 4, 96);
        hands.right("marks 1;hire 0;", 2);
        hands.right("marks 1;hire 9;", 2);
        hands.fault("marks 1;hire 10;", 3, 13);
        hands.fault("marks 1;hire;", 2, 12);
        hands.fault("marks 1;hire 1 1;", 2, 15);
        hands.fault("marks 1;people 0;", 3, 15);
        hands.right("marks 1;people 1;", 2);
        hands.right("marks 1;people 6;", 2);
        hands.fault("marks 1;people 7;", 3, 15);
        hands.fault("marks 1;people;", 2, 14);
        hands.due(49, "hire untold", Hands.opened("marks 1;").count(10), 2);
        hands.due(49, "people untold", Hands.opened("marks 1;").count(6), 2);
        LeastWords x = Hands.opened("marks 1;hire 9;people 6;hire 0;people 1;");
        hands.due(49, "a later hire strikes", x.count(10), 0);
        hands.due(49, "later people strike", x.count(6), 1);
        LeastWords y = Hands.opened("marks 1;hire 0;people 1;hire 9;people 6;");
        hands.due(49, "a later hire strikes", y.count(10), 9);
        hands.due(49, "later people strike", y.count(6), 6);
    }

    private static void atoms() {
        hands.right("marks 1;word:0=999;", 2);
        hands.fault("marks 1;word:1000=1;", 1, 13);
        hands.fault("marks 1;word:1=0000;", 1, 15);
        hands.right("marks 1;word:m 0=1;", 2);
        hands.fault("marks 1;word:m 1=1;", 3, 15);
        hands.right("marks 6;word:m 5=1;", 2);
        hands.fault("marks 6;word:m 6=1;", 3, 15);
        hands.fault("marks 6;word:m=1;", 2, 14);
        hands.right("marks 1;word:has 0=1;", 2);
        hands.right("marks 1;word:has 9=1;", 2);
        hands.fault("marks 1;word:has 10=1;", 3, 17);
        hands.fault("marks 1;word:has=1;", 2, 16);
        hands.fault("marks 1;word:sum 1=1;", 2, 17);
        hands.fault("marks 1;word:alike 1=1;", 2, 19);
        hands.fault("marks 1;word:number 1=1;", 2, 20);
    }

    private static void nested() {
        hands.right("marks 1;word:not not not not not not 1=1;", 2);
        hands.fault("marks 1;word:not not not not not not not 1=1;", 4, 37);
        hands.right("marks 1;word:[[[[[[1=1]]]]]];", 2);
        hands.fault("marks 1;word:[[[[[[[1=1]]]]]]];", 4, 19);
        hands.right("marks 1;word:((((((1))))))=1;", 2);
        hands.fault("marks 1;word:(((((((1)))))))=1;", 4, 19);
        hands.right("marks 1;word:1=((((((1))))));", 2);
        hands.fault("marks 1;word:1=(((((((1)))))));", 4, 21);
        hands.right("marks 1;word:not[not[not[1=1]]];", 2);
        hands.fault("marks 1;word:not[not[not[not 1=1]]];", 4, 25);
        hands.fault("marks 1;word:not[not[not[[1=1]]]];", 4, 25);
        hands.fault("marks 1;word:not[not[not[(1)=1]]];", 4, 25);
        hands.fault("marks 1;word:not[not[not[1=(1)]]];", 4, 27);
        hands.right("marks 1;word:[[[[[1=(1)]]]]];", 2);
        hands.fault("marks 1;word:[[[[[1=((1))]]]]];", 4, 21);
        hands.fault("marks 1;word:1=1 and not[[[[((1))=1]]]]];", 4, 29);
        hands.fault("marks 1;word:1+1*(1-(1+(1*(1-(1+(1*(1)))))))=1;", 4, 35);
    }

    /** What is closed, or ahead of an and, an or, a sign, does not count for what comes behind. */
    private static void nestedAnew() {
        hands.right("marks 1;word:[[[[[[1=1]]]]]]and[[[[[[1=1]]]]]]or not not not not not not 1=1;", 2);
        hands.right("marks 1;word:((((((1))))))+((((((1))))))*((((((1))))))=((((((1))))));", 2);
        hands.right("marks 1;word:[[[[[[1=1]or 1=1]and[1=1]]]]];", 2);
        hands.right("marks 1;word:not not not not not not 1=1 and not not not not not not 1=1;", 2);
        hands.right("marks 1;word:[[[[[[1=1]]]]]];word:[[[[[[1=1]]]]]];", 3);
        hands.fault("marks 1;word:[[[[[[1=1]]]]]]and[[[[[[[1=1]]]]]]];", 4, 37);
        hands.fault("marks 1;word:((((((1))))))=(((((((1)))))));", 4, 33);
        hands.fault("marks 1;word:not not not not not not 1=1 or not not not not not not(1)=1;", 4, 67);
        hands.fault("marks 1;word:[[[[[1=1 and[1=1]and[[1=1]]]]]]];", 4, 34);
    }

    private static void endOfText() {
        hands.fault("", 2, 0);
        hands.fault(" ", 2, 1);
        hands.fault("marks", 2, 5);
        hands.fault("marks 1", 2, 7);
        hands.fault("marks 1 \n ", 2, 10);
        hands.fault("marks 1;chest", 2, 13);
        hands.fault("marks 1;chest 1", 2, 15);
        hands.fault("marks 1;chest 1 \n ", 2, 18);
        hands.fault("marks 1;word", 2, 12);
        hands.fault("marks 1;word:", 2, 13);
        hands.fault("marks 1;word:1", 2, 14);
        hands.fault("marks 1;word:1=", 2, 15);
        hands.fault("marks 1;word:1=1", 2, 16);
        hands.fault("marks 1;word:1=1 and", 2, 20);
        hands.fault("marks 1;word:not", 2, 16);
        hands.fault("marks 1;word:m", 2, 14);
        hands.fault("marks 1;word:[1=1", 2, 17);
        hands.fault("marks 1;word:(1", 2, 15);
        hands.fault("marks 1;lamp 0", 2, 14);
        hands.fault("marks 1;hire", 2, 12);
        hands.right("marks 1;\n  \n", 1);
        hands.fault(" ".repeat(893) + "marks 1", 2, 900);
        hands.right(" ".repeat(892) + "marks 1;", 1);
    }

    private static void marksFirst() {
        hands.fault("chest 1;", 2, 0);
        hands.fault(";marks 1;", 2, 0);
        hands.fault(" hire 1;marks 1;", 2, 1);
        hands.fault("1;", 2, 0);
        hands.fault("marks marks 1;", 2, 6);
        hands.fault("marks 1;marks 1;", 2, 8);
        hands.fault("marks 1;chest 1;marks 1;", 2, 16);
        hands.fault("marks 1;;", 2, 8);
        hands.fault("marks 1;7;", 2, 8);
    }

    private static void tokens() {
        hands.right("marks1;chest1;word:m0=1and not[m0=2]or1=1;", 3);
        hands.right("\nmarks\n1\n;\nword\nsound\ncost\n1\n:\n1\n=\n1\n;", 2);
        hands.right("marks 1;word:has9=1;word:sum>1;word:not(1)=1;", 4);
        hands.fault("markss 1;", 2, 0);
        hands.fault("mark s 1;", 2, 0);
        hands.fault("m arks 1;", 2, 0);
        hands.fault("marks 1;chestspare 1;", 2, 8);
        hands.fault("marks 1;ches t 1;", 2, 8);
        hands.fault("marks 1;word:notm 0=1;", 2, 13);
        hands.fault("marks 1;word:summ 0=1;", 2, 13);
        hands.fault("marks 1;word:1=1and1=1or;", 2, 24);
        hands.fault("marks 1;foo", 2, 8);
        hands.fault("marks 0001;", 1, 6);
        hands.right("marks 001;", 1);
        hands.fault("marks 00 1;", 3, 6);
        hands.fault("marks 1;chest 0001;", 1, 14);
        hands.fault("marks 1;chest 0001", 1, 14);
        hands.fault("marks 1;chest 1234567890;", 1, 14);
        hands.fault("marks 1;chest 1 2345;", 1, 16);
        hands.fault("marks 1;word:1>999 and 1>9999;", 1, 25);
    }

    /** Of 256 bytes behind a whole text two are blanks; others that begin a TOKEN can't stand there. */
    private static void allSigns() {
        String begin = "abcdefghijklmnopqrstuvwxyz0123456789;:+-*()[]=<>";
        for (char sign = 0; sign < 256; sign++) {
            String text = "marks 1;" + sign;
            if (sign == 10 || sign == 32) {
                hands.right(text, 1);
            } else {
                hands.fault(text, begin.indexOf(sign) < 0 ? 1 : 2, 8);
            }
        }
    }

    /** Of one TOKEN the least kind. */
    private static void leastKind() {
        hands.fault("marks 1 1000;", 1, 8);
        hands.fault("marks 1 99;", 2, 8);
        hands.fault("marks 1;99;", 2, 8);
        hands.fault("marks 1;chest 1 10;", 2, 16);
        hands.fault("marks 1;hire 1000;", 1, 13);
        hands.fault("marks 1;word:has 1000=1;", 1, 17);
        hands.fault("marks 1;" + "chest 1;".repeat(14) + "hire chest;", 2, 125);
        hands.fault("marks 1;" + "word:1=1;".repeat(10) + "hire word;", 2, 103);
        hands.fault("marks 1;" + "lamp 0 1 2;".repeat(8) + "hire lamp;", 2, 101);
        hands.fault("marks 1;word:[[[[[[1=[1]]]]]]];", 2, 21);
        hands.fault("marks 1;word:((((((not 1))))))=1;", 2, 19);
        hands.fault("marks 1;word:((((((1(1)))))))=1;", 2, 20);
        hands.fault("marks 1;word:not not not not not not 1=1 not 1=1;", 2, 41);
        hands.fault("marks 1;word:1=1[1=1];", 2, 16);
    }

    private static void firstAlong() {
        hands.fault("marks 7;!", 3, 6);
        hands.fault("marks 1;hire 10 !", 3, 13);
        hands.fault("marks 1;chest !10;", 1, 14);
        hands.fault("marks 1;chest 10 !;", 3, 14);
        hands.fault("marks 1;chest; 10000", 2, 13);
        hands.fault("marks 1;lamp 1 10 1000;", 3, 13);
        hands.fault("marks 1;" + "chest 1;".repeat(14) + "chest 10 !", 4, 120);
        hands.fault("marks 1;word:(((((((1000", 4, 19);
        hands.fault("marks 1;word:((((((1000(((", 1, 19);
        hands.fault("marks 1;people 7;" + "chest 1;".repeat(15), 3, 15);
    }

    private static void faultAsked() {
        LeastWords x = new LeastWords();
        hands.due(4, "at first without", x.fault(0), 0);
        hands.due(4, "at first no place", x.fault(1), -1);
        for (int what : new int[] {Integer.MIN_VALUE, -1, 2, 3, Integer.MAX_VALUE}) {
            hands.due(4, "fault(" + what + ") at first", x.fault(what), -1);
        }
        x.hall(0);
        hands.due(4, "the first place", x.fault(1), 0);
        for (int what : new int[] {Integer.MIN_VALUE, -1, 2, 3, Integer.MAX_VALUE}) {
            hands.due(4, "fault(" + what + ")", x.fault(what), -1);
        }
        hands.thrown(4, "one that throws", ARGUMENT, () -> x.hall(1));
        hands.due(4, "isn't the latest", x.fault(0), 2);
        Hands.open(x, "marks 1;");
        hands.due(4, "without", x.fault(0), 0);
        hands.due(4, "without a place", x.fault(1), -1);
        Hands.open(x, "marks 1;!");
        hands.due(4, "the latest", x.fault(0), 1);
        hands.due(4, "the latest's place", x.fault(1), 8);
    }

    private static void lampLooks() {
        LeastWords x = Hands.opened("marks 6;chest 0 9 1 1 1 9;lamp 0 0 9;lamp 1 9 0;lamp 2 0 5;lamp 3 1 1;lamp 3 1 2;"
            + "lamp 5 8 7;lamp 5 9 8;lamp 0 0 4;");
        int[] by = {9, 0, 1, 1, 1, 8};
        int[] is = {0, 9, 1, 1, 1, 9};
        for (int m = 0; m < 6; m++) {
            hands.due(5, "by day, mark " + m, x.mark(0, m, true), is[m]);
        }
        x.lamp();
        for (int m = 0; m < 6; m++) {
            hands.due(5, "by lamp, mark " + m, x.mark(0, m, true), by[m]);
            hands.due(5, "what it is, mark " + m, x.mark(0, m, false), is[m]);
        }
        LeastWords eighth = Hands.opened("marks 1;chest 7;" + "lamp 0 1 2;".repeat(7) + "lamp 0 7 3;");
        eighth.lamp();
        hands.due(5, "the eighth counts", eighth.mark(0, 0, true), 3);
    }

    private static LeastWords fourteen() {
        return Hands.opened("marks 6;chest 1 2 3 4 5 6;" + "chest 0 0 0 0 0 0;".repeat(12) + "spare 9 8 7 6 5 4;"
            + "word cost 9:sum<55;" + "word:sum<0;".repeat(8) + "word sound cost 9:number>12;people 6;");
    }

    private static void mark() {
        LeastWords x = fourteen();
        hands.due(5, "the first of the first", x.mark(0, 0, true), 1);
        hands.due(5, "the last of the first", x.mark(0, 5, true), 6);
        hands.due(5, "the first of the last, which is out", x.mark(13, 0, false), 9);
        hands.due(5, "the last of the last", x.mark(13, 5, true), 4);
        for (int no : new int[] {-1, 14}) {
            hands.thrown(5, "chest " + no, NO_SUCH, () -> x.mark(no, 0, true));
        }
        for (int no : new int[] {-1, 6}) {
            hands.thrown(5, "mark " + no, NO_SUCH, () -> x.mark(13, no, true));
        }
    }

    private static void chest() {
        LeastWords x = fourteen();
        hands.due(6, "the first", x.chest(0, 0), 1);
        hands.due(6, "the last", x.chest(13, 0), 0);
        hands.due(6, "words of the first", x.chest(0, 1), 1);
        hands.due(6, "words of the last", x.chest(13, 1), 513);
        hands.due(6, "all in are like the first", x.chest(0, 2), 12);
        hands.due(6, "none is like the last", x.chest(13, 2), 0);
        hands.thrown(6, "chest 14", NO_SUCH, () -> x.chest(14, 0));
        hands.thrown(6, "chest -1", NO_SUCH, () -> x.chest(-1, 0));
        hands.thrown(6, "what 3", ARGUMENT, () -> x.chest(0, 3));
        hands.thrown(6, "what -1", ARGUMENT, () -> x.chest(0, -1));
        LeastWords all = Hands.opened("marks 1;" + "chest 1;".repeat(14) + "word:1=1;".repeat(10));
        hands.due(6, "all words", all.chest(13, 1), 1023);
        hands.due(6, "all are alike, it itself aside", all.chest(13, 2), 13);
        hands.due(6, "alone", Hands.opened("marks 1;chest 1;spare 1;").chest(0, 2), 0);
    }

    private static void word() {
        LeastWords x = fourteen();
        hands.due(7, "cost of the first", x.word(0, 0), 9);
        hands.due(7, "cost untold", x.word(1, 0), 1);
        hands.due(7, "cost of the last", x.word(9, 0), 9);
        hands.due(7, "sound", x.word(9, 1), 1);
        hands.due(7, "not sound", x.word(8, 1), 0);
        hands.due(7, "all in the hall", x.word(0, 3), 0x1fff);
        hands.due(7, "none", x.word(8, 3), 0);
        hands.due(7, "one that is out", x.word(9, 3), 0);
        x.carry(13);
        hands.due(7, "the last", x.word(9, 3), 0x2000);
        hands.due(7, "all of fourteen", x.word(0, 3), 0x3fff);
        hands.thrown(7, "word 10", NO_SUCH, () -> x.word(10, 0));
        hands.thrown(7, "word -1", NO_SUCH, () -> x.word(-1, 0));
        hands.thrown(7, "what 4", ARGUMENT, () -> x.word(9, 4));
        hands.thrown(7, "what -1", ARGUMENT, () -> x.word(9, -1));
        // the last WORD is USED, and no other
        x.stake(13);
        x.claim(5, 512);
        x.settle();
        hands.due(7, "the last is used", x.word(9, 2), 1);
        hands.due(7, "the first isn't", x.word(0, 2), 0);
    }

    private static void held(String truth, boolean due) {
        LeastWords x = Hands.opened("marks 6;chest 9 9 9 9 9 9;" + "spare 0 0 0 0 0 0;".repeat(12)
            + "spare 0 1 2 3 4 5;word:" + truth + ";");
        hands.due(8, truth, x.holds(0, 0, false) ? 1 : 0, due ? 1 : 0);
    }

    private static void holds() {
        held("sum=54", true);
        held("alike=15", true);
        held("has 9=1", true);
        held("has 8=0", true);
        held("1=2 and[1=1 or 1=1]", false);
        held("1=1 or[1=2 and 1=2]", true);
        held("1=2 or 1=2 and[1=1 or 1=1]", false);
        held("1=2 and not[1=2 or 1=2]or 1=2", false);
        held("1=2 and[1=2 or[1=1 or 1=1]and 1=1]", false);
        held("9-(4-(3-(2-1)))=7", true);
        held("2*(3+4)*(1+1)=28", true);
        held("1-1*(2-3)*(4+1)=6", true);
        held("m 0=9 and m 5=9", true);
        held("number=0", true);
        // 999999 is 999*999+999+999: one more is the most, and two more are kept to it
        String most = "999*999+999+999";
        String less = "-999*999-999-999";
        held(most + "+0" + less + "=0", true);
        held(most + "+1" + less + "=1", true);
        held(most + "+2" + less + "=1", true);
        held(most + "+999" + less + "=1", true);
        held("0" + less + "-0+" + most + "=0", true);
        held("0" + less + "-1+" + most + "=0-1", true);
        held("0" + less + "-2+" + most + "=0-1", true);
        held("0" + less + "-999+" + most + "=0-1", true);
        held("(999+1)*(999+1)" + less + "=1", true);
        held("(999+1)*(999+2)" + less + "=1", true);
        held("(999+1)*(0-999-1)+" + most + "=0-1", true);
        held("(999+1)*(0-999-2)+" + most + "=0-1", true);
        // beyond what an int holds, ahead of its being kept
        held("(999+1)*(999+1)*((999+1)*(999+1))" + less + "=1", true);
        held("(999+1)*(999+1)*((999+1)*(0-999-1))+" + most + "=0-1", true);
        held("(999+1)*(0-999-1)*((999+1)*(0-999-1))" + less + "=1", true);
        held("999*999*999>999*999*998", false);
        LeastWords x = Hands.opened("marks 6;" + "chest 9 9 9 9 9 9;".repeat(13) + "spare 0 1 2 3 4 5;word:alike=0;"
            + "word:sum=15 and number=13;" + "word:has 0=1;" + "word:1=1;".repeat(6) + "word:m 5=5;lamp 5 5 4;");
        hands.due(8, "none alike", x.holds(0, 13, false) ? 1 : 0, 1);
        hands.due(8, "two alike by lamp", x.holds(0, 13, true) ? 1 : 0, 0);
        hands.due(8, "the last chest", x.holds(1, 13, false) ? 1 : 0, 1);
        hands.due(8, "a mark of 0", x.holds(2, 13, false) ? 1 : 0, 1);
        hands.due(8, "no mark of 0", x.holds(2, 12, false) ? 1 : 0, 0);
        hands.due(8, "the last word by day", x.holds(9, 13, false) ? 1 : 0, 1);
        hands.due(8, "the last word by lamp", x.holds(9, 13, true) ? 1 : 0, 0);
        hands.due(8, "one mark is alike to none", Hands.opened("marks 1;chest 1;word:alike=0;").holds(0, 0, true) ? 1 : 0, 1);
        for (int no : new int[] {-1, 10}) {
            hands.thrown(8, "word " + no, NO_SUCH, () -> x.holds(no, 0, true));
        }
        for (int no : new int[] {-1, 14}) {
            hands.thrown(8, "chest " + no, NO_SUCH, () -> x.holds(0, no, true));
        }
    }
}
