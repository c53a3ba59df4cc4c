import java.util.NoSuchElementException;

/** Promises 9 to 19: fits, tells, cost, least, blind, sure, price, hardest, ways, rank, shorter. */
public final class DescriptionTests {
    private static final Class<NoSuchElementException> NO_SUCH = NoSuchElementException.class;
    private static final Class<IllegalStateException> STATE = IllegalStateException.class;
    private static final Class<IllegalArgumentException> ARGUMENT = IllegalArgumentException.class;
    private static final Hands hands = new Hands();

    private static final int NOT_0 = 1 << 10;
    private static final int NOT_1 = 1 << 11;
    private static final int NOT_2 = 1 << 12;

    /**
     * By day WORDS hold so: chest 0: 0 1; chest 1: 0; chest 2: 1 2; chest 3 (out): 2. By lamp chest 2 is 0 1.
     */
    private static final String HALL = "marks 2;chest 1 1;chest 1 0;chest 2 1;spare 3 0;"
        + "word cost 3:m 0=1;word sound:m 1=1;word sound cost 4:m 0>1;lamp 0 2 1;hire 5;people 3;";

    public static void main(String[] args) {
        fitsTellsCost();
        wrongOnes();
        leastBlindPrice();
        sure();
        hardest();
        waysAndRank();
        shorter();
        hands.end();
    }

    private static void fitsTellsCost() {
        LeastWords x = Hands.opened(HALL);
        hands.due(9, "nothing said", x.fits(0), 7);
        hands.due(9, "word 0", x.fits(1), 3);
        hands.due(9, "not word 0", x.fits(NOT_0), 4);
        hands.due(9, "0 and 2", x.fits(5), 0);
        hands.due(10, "0 and 1", x.tells(3), 0);
        hands.due(10, "not 1", x.tells(NOT_1), 1);
        hands.due(10, "0 alone", x.tells(1), -1);
        hands.due(10, "none", x.tells(5), -1);
        hands.due(11, "nothing", x.cost(0), 0);
        hands.due(11, "said and denied", x.cost(1 | NOT_1 | NOT_2), 3 + 2 + 5);
        x.carry(3);
        hands.due(9, "not 1, with the spare one", x.fits(NOT_1), 10);
        hands.due(10, "not 1, with the spare one", x.tells(NOT_1), -1);
        x.carry(3);
        x.claim(0, 3);
        x.settle();
        hands.due(11, "used ones are hired", x.cost(1 | NOT_1 | NOT_2), 3 + 5 + 2 + 5 + 5);
        x.lamp();
        hands.due(9, "by lamp", x.fits(3), 4);
        hands.due(10, "by lamp", x.tells(2), 2);
    }

    private static void wrongOnes() {
        LeastWords x = Hands.opened(HALL);
        int[] none = {8, 1 << 13, 1 | NOT_0, 7 | NOT_2, -1, Integer.MIN_VALUE, 1 << 20, 1 << 30, 512};
        for (int d : none) {
            hands.thrown(9, "fits(" + d + ")", ARGUMENT, () -> x.fits(d));
            hands.thrown(10, "tells(" + d + ")", ARGUMENT, () -> x.tells(d));
            hands.thrown(11, "cost(" + d + ")", ARGUMENT, () -> x.cost(d));
            hands.thrown(18, "rank(" + d + ")", ARGUMENT, () -> x.rank(d));
            hands.thrown(19, "shorter(" + d + ")", ARGUMENT, () -> x.shorter(d));
            hands.thrown(20, "claim(0, " + d + ")", ARGUMENT, () -> x.claim(0, d));
        }
        for (int c : new int[] {-1, 4, 14, Integer.MAX_VALUE}) {
            hands.thrown(12, "least(" + c + ")", NO_SUCH, () -> x.least(c));
            hands.thrown(13, "blind(" + c + ")", NO_SUCH, () -> x.blind(c));
            hands.thrown(14, "sure(" + c + ")", NO_SUCH, () -> x.sure(c));
            hands.thrown(15, "price(" + c + ")", NO_SUCH, () -> x.price(c));
            hands.thrown(17, "ways(" + c + ")", NO_SUCH, () -> x.ways(c));
        }
        hands.thrown(12, "least(3)", STATE, () -> x.least(3));
        hands.thrown(13, "blind(3)", STATE, () -> x.blind(3));
        hands.thrown(14, "sure(3)", STATE, () -> x.sure(3));
        hands.thrown(15, "price(3)", STATE, () -> x.price(3));
        hands.thrown(17, "ways(3)", STATE, () -> x.ways(3));
        hands.due(9, "nothing changed", x.fits(0), 7);
        LeastWords ten = Hands.opened("marks 1;chest 1;" + "word:m 0=1;".repeat(10));
        hands.due(9, "all ten said", ten.fits(1023), 1);
        hands.due(9, "all ten denied", ten.fits(1023 << 10), 0);
        hands.thrown(9, "bit 20", ARGUMENT, () -> ten.fits(1 << 20));
    }

    private static void leastBlindPrice() {
        LeastWords x = Hands.opened(HALL);
        // 0 and 1 cost 4; 1 and not 2 cost 6
        hands.due(12, "least(0)", x.least(0), 3);
        hands.due(15, "price(0)", x.price(0), 4);
        hands.due(13, "blind(0)", x.blind(0), 2 | NOT_2);
        hands.due(12, "least(1)", x.least(1), NOT_1);
        hands.due(15, "price(1)", x.price(1), 2);
        // word 2 costs 4, and so does not 0: the lesser number
        hands.due(12, "least(2)", x.least(2), 4);
        hands.due(15, "price(2)", x.price(2), 4);
        hands.due(13, "blind(2)", x.blind(2), 4);
        x.carry(3);
        // chest 3 has word 2 alone
        hands.due(12, "least(1) with chest 3", x.least(1), 1 | NOT_1);
        hands.due(15, "price(1) with chest 3", x.price(1), 5);
        hands.due(13, "blind(1) with chest 3", x.blind(1), NOT_1 | NOT_2);
        hands.due(12, "least(2) with chest 3", x.least(2), 6);
        x.carry(3);
        x.lamp();
        hands.due(12, "least(0) by lamp: like chest 2", x.least(0), -1);
        hands.due(13, "blind(0) by lamp", x.blind(0), -1);
        hands.due(15, "price(0) by lamp", x.price(0), -1);
        x.carry(0);
        x.carry(1);
        hands.due(12, "alone", x.least(2), 0);
        hands.due(15, "alone", x.price(2), 0);
        LeastWords deaf = Hands.opened("marks 1;chest 1;chest 2;word:m 0=1;");
        hands.due(13, "no sound words", deaf.blind(0), -1);
        hands.due(12, "but words", deaf.least(0), 1);
        LeastWords tie = Hands.opened("marks 1;chest 1;chest 2;word cost 2:m 0=2;word cost 3:m 0=1;");
        hands.due(12, "of like cost the least number: said below denied", tie.least(0), 2);
        tie.claim(0, 2);
        tie.settle();
        tie.carry(0);
        hands.due(12, "hired ones cost more", tie.least(0), NOT_0);
    }

    private static void sure() {
        LeastWords x = Hands.opened(HALL);
        hands.due(14, "chest 0 and chest 2 are alike by lamp", x.sure(0), -1);
        hands.due(14, "chest 2", x.sure(2), -1);
        hands.due(14, "chest 1", x.sure(1), NOT_1);
        LeastWords y = Hands.opened("marks 1;chest 1;chest 2;chest 3;word:m 0<2;word cost 5:number=0;lamp 0 2 1;");
        hands.due(12, "by day", y.least(0), 1);
        hands.due(14, "by any light", y.sure(0), 2);
        hands.due(14, "word 0 changes for it", y.sure(1), -1);
        y.lamp();
        hands.due(14, "by any light, when lit", y.sure(0), 2);
        LeastWords z = Hands.opened("marks 1;chest 1;chest 2;word:m 0=1;word cost 9:number=0;lamp 0 1 2;lamp 0 2 1;");
        hands.due(14, "each by its light, but not the same", z.sure(0), 2);
        // not word 0 and word 1 cost 3 each: the lesser number; hired, word 1 costs more
        LeastWords denied = Hands.opened("marks 1;chest 1;chest 2;word cost 2:m 0=2;word cost 3:m 0=1;hire 1;");
        hands.due(14, "a denied word costs one more", denied.sure(0), 2);
        denied.claim(0, 2);
        denied.settle();
        denied.carry(0);
        hands.due(14, "and a hired one", denied.sure(0), NOT_0);
        LeastWords only = Hands.opened("marks 1;chest 1;chest 2;word cost 2:m 0=2;word cost 2:m 0=1;");
        hands.due(14, "said rather than denied", only.sure(0), 2);
        hands.due(14, "said rather than denied", only.sure(1), 1);
    }

    private static void hardest() {
        LeastWords x = Hands.opened(HALL);
        hands.due(16, "of like ones the first", x.hardest(), 0);
        x.carry(0);
        hands.due(16, "0 is out", x.hardest(), 1);
        x.carry(0);
        x.carry(3);
        hands.due(15, "price(2)", x.price(2), 5);
        hands.due(15, "price(3)", x.price(3), 6);
        hands.due(16, "with chest 3", x.hardest(), 3);
        x.lamp();
        hands.due(16, "that none tells", x.hardest(), 0);
        hands.due(16, "of none", Hands.opened("marks 1;spare 1;").hardest(), -1);
        hands.due(16, "of one", Hands.opened("marks 1;spare 1;chest 1;").hardest(), 1);
    }

    private static void waysAndRank() {
        LeastWords x = Hands.opened(HALL);
        // chest 1 has word 0 alone: each set with not 1 tells it, and none else
        hands.due(17, "ways(1)", x.ways(1), 4);
        // chest 0 needs 1, and 0 or not 2
        hands.due(17, "ways(0)", x.ways(0), 3);
        // chest 2 needs not 0 or 2
        hands.due(17, "ways(2)", x.ways(2), 6);
        hands.due(18, "the least", x.rank(4), 0);
        hands.due(18, "of like cost", x.rank(NOT_0), 0);
        hands.due(18, "4, not 0, and 1 with one of these cost less", x.rank(4 | NOT_0), 4);
        hands.due(18, "all", x.rank(6 | NOT_0), 5);
        hands.due(18, "tells none", x.rank(1), -1);
        x.lamp();
        hands.due(17, "none tells it", x.ways(0), 0);
        hands.due(18, "tells none by lamp", x.rank(4), -1);
        hands.due(17, "alone, of no words", Hands.opened("marks 1;chest 1;").ways(0), 1);
        hands.due(18, "alone, of no words", Hands.opened("marks 1;chest 1;").rank(0), 0);
        StringBuilder many = new StringBuilder("marks 1;chest 1;");
        for (int i = 0; i < 10; i++) {
            many.append("word:m 0=1;");
        }
        hands.due(17, "all of ten words", Hands.opened(many.toString()).ways(0), 1024);
    }

    private static void shorter() {
        LeastWords x = Hands.opened(HALL);
        hands.due(19, "the last bit goes first", x.shorter(4 | NOT_0), 4);
        hands.due(19, "what is needed stays", x.shorter(3), 3);
        hands.due(19, "two go", x.shorter(1 | NOT_1 | NOT_2), NOT_1);
        hands.due(19, "fits all, so nothing is needed", Hands.opened("marks 1;chest 1;word:1=1;").shorter(1), 0);
        hands.due(19, "fits none", x.shorter(5), 5);
        hands.due(19, "fits none, and more", x.shorter(5 | NOT_1), 5);
        hands.due(19, "nothing", x.shorter(0), 0);
        LeastWords y = Hands.opened("marks 1;chest 1;chest 2;word:m 0=1;word:m 0<2;word:m 0=2;");
        hands.due(19, "of three likes the first bit is left", y.shorter(3 | NOT_2), 1);
    }
}
