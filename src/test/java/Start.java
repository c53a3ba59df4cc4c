import java.util.List;
import java.util.function.Supplier;

/** Objects that are made alike, and what there is to tell of them. */
final class Start {
    /** A hall with something of all that there is: each refused call has something to spoil. */
    static final Start FULL = new Start(Start::full);
    /** CHESTS, but none IN: no STAKE. */
    static final Start BARE = new Start(Start::bare);
    /** As it was made. */
    static final Start NEW = new Start(LeastWords::new);

    final Supplier<LeastWords> made;
    private List<String> traces;

    Start(Supplier<LeastWords> made) {
        this.made = made;
    }

    List<String> traces() {
        if (traces == null) {
            traces = Traces.of(made);
        }
        return traces;
    }

    private static LeastWords full() {
        LeastWords x = new LeastWords();
        Hands.open(x, "marks 3;chest 7 7 7;word:m 2=7;");
        x.lamp();
        x.image(2);
        // CHESTS 0, 1, 2, 4 are IN, 3 is OUT; the WORDS that hold by day are 5, 0, 6, 3, 2 as bits
        Hands.open(x, "marks 2;chest 1 1;chest 0 2;chest 3 2;spare 1 9;chest 2 8;word sound cost 3:m 0=1;"
            + "word cost 2:sum>4;word sound:m 0-m 1=0 or m 0=3;lamp 0 2 1;lamp 1 8 0;hire 4;people 3;");
        x.claim(0, 4);
        x.claim(2, 1);
        x.settle();
        x.image(0);
        x.stake(2);
        x.claim(1, 1 << 10);
        x.lamp();
        x.change(2, 1, 8);
        x.claim(2, 1 << 11);
        x.claim(0, 6);
        Hands.fill(x, 0, 2, -1, 3000, 2003, 419, 500, 3000);
        Hands.fill(x, 1, 0, 7, 111, -128);
        x.tray(3, 3, 30);
        Hands.open(x, "marks 2;chest 11;");
        x.feed(0x6d61726b, 0x7320313b, 0x63686573, 0x7420313b, 0x63686573);
        x.feed(0x7420323b, 0x20202020, 0x20202020, 0x20202020, 0x20202020);
        return x;
    }

    private static LeastWords bare() {
        LeastWords x = Hands.opened("marks 1;chest 1;spare 2;spare 3;word:m 0=1;people 2;");
        Hands.fill(x, 1, 1, 3000, 2001, -1);
        x.claim(1, 1);
        x.settle();
        return x;
    }
}
