import java.util.NoSuchElementException;

/** Promises 9 to 19 at their bounds: no WORDS and ten, no CHESTS and fourteen, the least and the most there is. */
public final class DescriptionEdges {
    private static final Class<NoSuchElementException> NO_SUCH = NoSuchElementException.class;
    private static final Class<IllegalStateException> STATE = IllegalStateException.class;
    private static final Class<IllegalArgumentException> ARGUMENT = IllegalArgumentException.class;
    private static final Hands hands = new Hands();
    private static final int ALL = 1023;

    public static void main(String[] args) {
        withoutWords();
        withOneWord();
        withTenWords();
        fits();
        tells();
        cost();
        chests();
        alone();
        alike();
        dearest();
        likeCosts();
        sound();
        sure();
        hardest();
        ways();
        rank();
        shorter();
        hands.end();
    }

    private static void taken(LeastWords x, int d) {
        Hands.Call[] calls = {() -> x.fits(d), () -> x.tells(d), () -> x.cost(d), () -> x.rank(d), () -> x.shorter(d),
            () -> x.claim(0, d)};
        int[] promises = {9, 10, 11, 18, 19, 20};
        for (int i = 0; i < calls.length; i++) {
            hands.thrown(promises[i], "description " + d, null, calls[i]);
        }
        hands.due(20, "it is the claim", x.person(0, 0), d);
    }

    private static void refused(LeastWords x, int d) {
        int claimed = x.person(0, 0);
        Hands.Call[] calls = {() -> x.fits(d), () -> x.tells(d), () -> x.cost(d), () -> x.rank(d), () -> x.shorter(d),
            () -> x.claim(0, d)};
        int[] promises = {9, 10, 11, 18, 19, 20};
        for (int i = 0; i < calls.length; i++) {
            hands.thrown(promises[i], "no description " + d, ARGUMENT, calls[i]);
        }
        hands.due(20, "the claim stays", x.person(0, 0), claimed);
    }

    private static void withoutWords() {
        LeastWords x = Hands.opened("marks 1;chest 1;");
        taken(x, 0);
        for (int bit = 0; bit < 32; bit++) {
            refused(x, 1 << bit);
        }
        refused(x, -1);
    }

    private static void withOneWord() {
        LeastWords x = Hands.opened("marks 1;chest 1;word:m 0=1;");
        taken(x, 0);
        taken(x, 1);
        taken(x, 1 << 10);
        for (int bit = 0; bit < 32; bit++) {
            if (bit != 0 && bit != 10) {
                refused(x, 1 << bit);
                refused(x, 1 | 1 << bit);
            }
        }
        refused(x, 1 | 1 << 10);
    }

    private static LeastWords ten(String chests) {
        return Hands.opened("marks 1;" + chests + "word:m 0=1;".repeat(10));
    }

    private static void withTenWords() {
        LeastWords x = ten("chest 1;");
        for (int bit = 0; bit < 20; bit++) {
            taken(x, 1 << bit);
        }
        taken(x, ALL);
        taken(x, ALL << 10);
        taken(x, 0x155 | 0x2aa << 10);
        taken(x, 0x2aa | 0x155 << 10);
        for (int w = 0; w < 10; w++) {
            refused(x, 1 << w | 1 << w + 10);
            refused(x, ALL | 1 << w + 10);
            refused(x, ALL << 10 | 1 << w);
        }
        for (int bit = 20; bit < 32; bit++) {
            refused(x, 1 << bit);
        }
        refused(x, ALL | ALL << 10);
        refused(x, -1);
        refused(x, Integer.MIN_VALUE);
        refused(x, Integer.MAX_VALUE);
    }

    private static void fits() {
        hands.due(9, "of no chests", new LeastWords().fits(0), 0);
        LeastWords none = ten("spare 1;");
        hands.due(9, "none is in", none.fits(ALL), 0);
        hands.due(9, "none is in, nothing said", none.fits(0), 0);
        LeastWords x = ten("chest 1;".repeat(14));
        hands.due(9, "all fourteen, nothing said", x.fits(0), 0x3fff);
        hands.due(9, "all fourteen, all said", x.fits(ALL), 0x3fff);
        hands.due(9, "none of fourteen", x.fits(1 << 19), 0);
        x.change(13, 0, 2);
        hands.due(9, "the last alone", x.fits(1 << 19), 0x2000);
        hands.due(9, "all but the last", x.fits(1 << 9), 0x1fff);
        x.carry(13);
        hands.due(9, "it is out", x.fits(1 << 19), 0);
    }

    private static void tells() {
        hands.due(10, "of no chests", new LeastWords().tells(0), -1);
        hands.due(10, "none is in", ten("spare 1;").tells(0), -1);
        hands.due(10, "one is in, nothing said", ten("spare 1;chest 1;").tells(0), 1);
        hands.due(10, "one is in, which it does not fit", ten("chest 2;").tells(512), -1);
        LeastWords x = ten("chest 1;" + "chest 2;".repeat(13));
        hands.due(10, "the first of fourteen", x.tells(1), 0);
        hands.due(10, "thirteen", x.tells(1 << 10), -1);
        for (int c = 1; c < 13; c++) {
            hands.due(10, "still two of them", x.tells(1 << 10), -1);
            x.carry(c);
        }
        hands.due(10, "the last of fourteen", x.tells(1 << 10), 13);
    }

    private static void cost() {
        LeastWords x = Hands.opened("marks 1;chest 1;spare 1;hire 9;" + "word cost 9:1=2;".repeat(10));
        hands.due(11, "nothing said", x.cost(0), 0);
        hands.due(11, "one said", x.cost(1 << 9), 9);
        hands.due(11, "one denied", x.cost(1 << 19), 10);
        hands.due(11, "all said", x.cost(ALL), 90);
        hands.due(11, "all denied", x.cost(ALL << 10), 100);
        x.claim(0, ALL << 10);
        x.settle();
        hands.due(11, "all said, all hired", x.cost(ALL), 180);
        hands.due(11, "all denied, all hired", x.cost(ALL << 10), 190);
        hands.due(11, "nothing said", x.cost(0), 0);
        LeastWords free = Hands.opened("marks 1;chest 1;hire 0;word cost 1:1=1;");
        free.claim(0, 1);
        free.settle();
        hands.due(7, "it is used", free.word(0, 2), 1);
        hands.due(11, "hired for nothing", free.cost(1), 1);
    }

    private static void chests() {
        LeastWords x = ten("chest 1;" + "spare 1;".repeat(12) + "chest 2;");
        hands.due(12, "the first", x.least(0), 1);
        hands.due(12, "the last of fourteen", x.least(13), 1 << 10);
        hands.due(14, "the last of fourteen", x.sure(13), 1 << 10);
        hands.due(15, "the last of fourteen", x.price(13), 2);
        hands.due(17, "the last of fourteen", x.ways(13), ALL);
        hands.due(13, "the last of fourteen, without sound", x.blind(13), -1);
        for (int c : new int[] {-1, 14, 31, 32, Integer.MIN_VALUE, Integer.MAX_VALUE}) {
            hands.thrown(12, "least(" + c + ")", NO_SUCH, () -> x.least(c));
            hands.thrown(13, "blind(" + c + ")", NO_SUCH, () -> x.blind(c));
            hands.thrown(14, "sure(" + c + ")", NO_SUCH, () -> x.sure(c));
            hands.thrown(15, "price(" + c + ")", NO_SUCH, () -> x.price(c));
            hands.thrown(17, "ways(" + c + ")", NO_SUCH, () -> x.ways(c));
        }
        for (int c : new int[] {1, 12}) {
            hands.thrown(12, "least(" + c + ")", STATE, () -> x.least(c));
            hands.thrown(13, "blind(" + c + ")", STATE, () -> x.blind(c));
            hands.thrown(14, "sure(" + c + ")", STATE, () -> x.sure(c));
            hands.thrown(15, "price(" + c + ")", STATE, () -> x.price(c));
            hands.thrown(17, "ways(" + c + ")", STATE, () -> x.ways(c));
        }
    }

    private static void alone() {
        for (String text : new String[] {"marks 1;chest 1;", "marks 1;spare 1;chest 1;word:1=1;", "marks 1;chest 1;spare 1;word:1=2;"}) {
            LeastWords x = Hands.opened(text);
            int c = x.count(7);
            hands.due(12, "alone, by nothing said", x.least(c), 0);
            hands.due(13, "alone, by nothing said", x.blind(c), 0);
            hands.due(14, "alone, by nothing said", x.sure(c), 0);
            hands.due(15, "alone, for nothing", x.price(c), 0);
            hands.due(16, "alone", x.hardest(), c);
            hands.due(18, "alone, the first rank", x.rank(0), 0);
        }
    }

    private static void alike() {
        for (String text : new String[] {"marks 1;chest 1;chest 2;", "marks 1;chest 1;chest 1;word sound:m 0=1;"}) {
            LeastWords x = Hands.opened(text);
            hands.due(12, "two alike", x.least(1), -1);
            hands.due(13, "two alike", x.blind(1), -1);
            hands.due(14, "two alike", x.sure(1), -1);
            hands.due(15, "two alike", x.price(1), -1);
            hands.due(17, "two alike", x.ways(1), 0);
            hands.due(18, "two alike", x.rank(0), -1);
            x.carry(0);
            hands.due(12, "one of them", x.least(1), 0);
        }
    }

    /** For CHEST 0 none of ten WORDS holds, for each other one another WORD: all must be denied. */
    private static void dearest() {
        StringBuilder text = new StringBuilder("marks 1;" + "chest 1;".repeat(11) + "hire 9;");
        for (int w = 1; w <= 10; w++) {
            text.append("word sound cost 9:number=").append(w).append(';');
        }
        LeastWords x = Hands.opened(text.toString());
        for (int used = 0; used < 2; used++) {
            hands.due(12, "all denied", x.least(0), ALL << 10);
            hands.due(13, "all denied", x.blind(0), ALL << 10);
            hands.due(14, "all denied", x.sure(0), ALL << 10);
            hands.due(15, "all denied", x.price(0), used == 0 ? 100 : 190);
            hands.due(16, "the dearest", x.hardest(), 0);
            hands.due(17, "one way alone", x.ways(0), 1);
            hands.due(18, "one way alone", x.rank(ALL << 10), 0);
            hands.due(19, "none can be left away", x.shorter(ALL << 10), ALL << 10);
            hands.due(12, "the last word alone", x.least(10), 1 << 9);
            hands.due(15, "the last word alone", x.price(10), used == 0 ? 9 : 18);
            hands.due(17, "the last word and any others denied", x.ways(10), 512);
            hands.due(18, "the last word and the first denied", x.rank(1 << 9 | 1 << 10), 1);
            for (int c = 1; c < 11 && used == 0; c++) {
                x.carry(c);
            }
            x.claim(1, ALL << 10);
            x.settle();
            for (int c = 0; c < 11 && used == 0; c++) {
                x.carry(c);
            }
        }
    }

    private static void likeCosts() {
        // word 9 said and word 0 denied cost 2 each
        LeastWords x = Hands.opened("marks 1;chest 1;chest 2;word:m 0=2;" + "word cost 9:m 0=1;".repeat(8) + "word cost 2:m 0=1;");
        hands.due(12, "the last said is less than the first denied", x.least(0), 1 << 9);
        hands.due(14, "the last said is less than the first denied", x.sure(0), 1 << 9);
        // chest 1 lacks words 0 and 1, chest 2 words 2 and 3: 1 4, 1 8, 2 4, 2 8 are like ones
        String chests = "marks 4;chest 1 1 1 1;chest 0 0 1 1;chest 1 1 0 0;";
        LeastWords y = Hands.opened(chests + "word sound:m 0=1;word sound:m 1=1;word sound:m 2=1;word sound:m 3=1;");
        hands.due(12, "of four like ones the least", y.least(0), 1 | 4);
        hands.due(13, "of four like ones the least", y.blind(0), 1 | 4);
        hands.due(14, "of four like ones the least", y.sure(0), 1 | 4);
        LeastWords z = Hands.opened(chests + "word cost 2:m 0=1;word:m 1=1;word cost 2:m 2=1;word:m 3=1;");
        hands.due(12, "the cheapest, not the least", z.least(0), 2 | 8);
        LeastWords denied = ten("chest 2;chest 1;");
        hands.due(12, "of ten denied the first", denied.least(0), 1 << 10);
        hands.due(12, "of ten said the first", denied.least(1), 1);
    }

    private static void sound() {
        LeastWords x = Hands.opened("marks 1;chest 1;chest 2;" + "word:m 0=1;".repeat(9) + "word sound cost 9:m 0=1;");
        hands.due(13, "the last word alone is sound", x.blind(0), 1 << 9);
        hands.due(13, "the last word alone is sound", x.blind(1), 1 << 19);
        hands.due(12, "others are cheaper", x.least(0), 1);
        LeastWords none = Hands.opened("marks 1;chest 1;chest 2;word:m 0=1;");
        hands.due(13, "none is sound", none.blind(0), -1);
        none.carry(1);
        hands.due(13, "alone, none is sound", none.blind(0), 0);
    }

    private static void sure() {
        LeastWords day = Hands.opened("marks 1;chest 1;chest 2;word:m 0=1;lamp 0 1 2;");
        hands.due(12, "told by day", day.least(0), 1);
        hands.due(14, "but not by lamp", day.sure(0), -1);
        LeastWords night = Hands.opened("marks 1;chest 1;chest 2;word:m 0<3;lamp 0 2 5;");
        hands.due(14, "told by lamp, but not by day", night.sure(0), -1);
        night.lamp();
        hands.due(12, "told by lamp", night.least(0), 1);
        hands.due(14, "told by lamp, but not by day", night.sure(0), -1);
        LeastWords lamp = Hands.opened("marks 1;chest 1;chest 1;word:m 0=2;word:number=0;lamp 0 1 2;");
        hands.due(14, "alike by word 0, told by word 1", lamp.sure(0), 2);
        // by day word 0 tells chest 0 from 1, by lamp from 2; so word 1 the other way round: both are needed
        LeastWords both = Hands.opened("marks 2;chest 1 1;chest 2 1;chest 1 2;word:m 0=1;word:m 1=1;lamp 0 2 2;");
        hands.due(14, "both words", both.sure(0), 3);
        LeastWords turned = Hands.opened("marks 1;chest 1;chest 2;word:m 0=1;lamp 0 1 2;lamp 0 2 1;");
        hands.due(12, "by day it holds for the first", turned.least(0), 1);
        hands.due(14, "by lamp for the second", turned.sure(0), -1);
        turned.lamp();
        hands.due(12, "by lamp it is denied", turned.least(0), 1 << 10);
        hands.due(14, "by lamp for the second", turned.sure(0), -1);
        LeastWords last = Hands.opened("marks 1;" + "spare 1;".repeat(12) + "chest 1;chest 2;" + "word:1=1;".repeat(9)
            + "word cost 9:m 0=2;lamp 0 3 2;");
        hands.due(14, "the last chest by the last word", last.sure(13), 1 << 9);
        hands.due(14, "the last but one by the last word denied", last.sure(12), 1 << 19);
        last.carry(0);
        last.change(0, 0, 3);
        hands.due(14, "like another by lamp alone", last.sure(13), -1);
        hands.due(12, "but not by day", last.least(13), 1 << 9);
    }

    private static void hardest() {
        hands.due(16, "no chests", new LeastWords().hardest(), -1);
        hands.due(16, "none is in", ten("spare 1;").hardest(), -1);
        hands.due(16, "all are told by none: the first", ten("spare 1;" + "chest 1;".repeat(13)).hardest(), 1);
        hands.due(16, "the last denied costs more", ten("chest 1;" + "spare 1;".repeat(12) + "chest 2;").hardest(), 13);
        LeastWords x = Hands.opened("marks 1;chest 1;chest 2;chest 2;word cost 9:m 0=1;hire 9;");
        hands.due(15, "told", x.price(0), 9);
        hands.due(16, "told by none is harder than all", x.hardest(), 1);
        x.carry(1);
        hands.due(16, "denied", x.hardest(), 2);
        // of like cost the first
        LeastWords y = Hands.opened("marks 1;chest 1;chest 2;word:m 0=1;word:m 0=2;");
        hands.due(16, "of like ones the first", y.hardest(), 0);
    }

    private static void ways() {
        hands.due(17, "one: nothing said", Hands.opened("marks 1;chest 1;").ways(0), 1);
        hands.due(17, "all sets of ten words", ten("chest 1;").ways(0), 1024);
        hands.due(17, "all but that of nothing", ten("chest 1;chest 2;").ways(1), 1023);
        hands.due(17, "none", ten("chest 1;chest 1;").ways(1), 0);
    }

    private static void rank() {
        LeastWords x = Hands.opened("marks 1;chest 1;" + "word cost 9:1=2;".repeat(10));
        hands.due(18, "the first", x.rank(0), 0);
        hands.due(18, "the second, as are ten", x.rank(1 << 19), 1);
        hands.due(18, "the last of 1024", x.rank(ALL << 10), 1023);
        hands.due(18, "fits none", x.rank(ALL), -1);
        hands.due(18, "of no chests", new LeastWords().rank(0), -1);
        hands.due(18, "none is in", ten("spare 1;").rank(0), -1);
        hands.due(18, "fits two", ten("chest 1;chest 1;").rank(0), -1);
        // of like cost none is ahead of another
        LeastWords y = ten("chest 1;chest 2;");
        hands.due(18, "the first of ten like ones", y.rank(1), 0);
        hands.due(18, "the last of ten like ones", y.rank(1 << 9), 0);
        hands.due(18, "two words: the ten of one are less", y.rank(3), 10);
        hands.due(18, "all words: all but itself are less", y.rank(ALL), 1022);
    }

    private static void shorter() {
        hands.due(19, "nothing", new LeastWords().shorter(0), 0);
        hands.due(19, "none is in: all can be left away", ten("spare 1;").shorter(ALL), 0);
        hands.due(19, "it fits all: all can be left away", ten("chest 1;").shorter(ALL), 0);
        LeastWords x = ten("chest 1;chest 2;");
        hands.due(19, "from the last bit on: the first is left", x.shorter(ALL), 1);
        hands.due(19, "from the last bit on, denied", x.shorter(ALL << 10), 1 << 10);
        hands.due(19, "two that are left", x.shorter(3 << 8), 1 << 8);
        hands.due(19, "it alone", x.shorter(1 << 9), 1 << 9);
        hands.due(19, "it alone, denied", x.shorter(1 << 19), 1 << 19);
        // it fits none, by a said one with a denied one: one of each is left, the first
        hands.due(19, "it fits none, and so must what is left", x.shorter(0x2aa | 0x155 << 10), 2 | 1 << 10);
    }
}
