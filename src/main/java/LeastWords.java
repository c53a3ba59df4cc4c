import java.util.Arrays;
import java.util.NoSuchElementException;

/**
 * Chests of a hall, told from one another by the least words. The hall comes as a text by feed() and
 * hall(); ../shared/DOC.md says, promise by promise, what each call answers.
 */
public final class LeastWords {
    public static final int NONE = -1;

    private static final int MOST_BYTES = 900;
    private static final int BYTES_A_FEED = 20;
    private static final int MOST_MARKS = 6;
    private static final int NUMBERS_A_MARK = 10;
    private static final int MOST_CHESTS = 14;
    private static final int MOST_WORDS = 10;
    private static final int MOST_LAMPS = 8;
    private static final int MOST_PEOPLE = 6;
    private static final int MOST_NESTED = 6;
    private static final int MOST_UNDONE = 10;
    private static final int MOST_OUT = 6;
    private static final int MOST_HARD = 99;
    private static final int MOST_NEW_MARKS = 3;
    private static final int MOST_TIMES = 30;
    private static final int MOST_PLACES = 30;
    private static final int TRAYS = 4;
    private static final int SORTS = 4;
    private static final int IMAGES = 3;
    private static final int SAID = (1 << MOST_WORDS) - 1;

    private static final int TOLD_CHANGES = 1400;
    private static final int TOLD_CARRY = 2000;
    private static final int TOLD_LAMP = 3000;

    private final byte[] tape = new byte[MOST_BYTES];
    private int taped;
    private int faultKind;
    private int faultPlace = NONE;
    private final Parser parser = new Parser();
    private final Reckoner reckoner = new Reckoner();
    private final Scene scene = new Scene();
    private final Scene[] images = new Scene[IMAGES];
    private final Tray[] trays = new Tray[TRAYS];
    private final State trial = new State();
    private final Describer describer = new Describer();
    private final Asker asker = new Asker();
    private final Maker maker = new Maker();

    public LeastWords() {
        for (int i = 0; i < TRAYS; i++) {
            trays[i] = new Tray();
        }
    }

    // ---- the hall

    public int feed(int a, int b, int c, int d, int e) {
        if (taped + BYTES_A_FEED > MOST_BYTES) {
            return NONE;
        }
        putOnTape(a);
        putOnTape(b);
        putOnTape(c);
        putOnTape(d);
        putOnTape(e);
        return taped;
    }

    private void putOnTape(int four) {
        for (int shift = 24; shift >= 0 && taped < MOST_BYTES; shift -= 8) {
            tape[taped] = (byte) (four >>> shift);
            taped++;
        }
    }

    public int hall(int n) throws IllegalArgumentException {
        if (n < 0 || n > taped) {
            throw new IllegalArgumentException("the tape has not so many bytes");
        }
        Plan made = parser.read(tape, n);
        taped = 0;
        faultKind = parser.fault;
        faultPlace = parser.place;
        if (made == null) {
            return -10 - faultKind;
        }
        scene.open(made, reckoner);
        return made.lines;
    }

    public int fault(int what) {
        return what == 0 ? faultKind : what == 1 ? faultPlace : NONE;
    }

    public int mark(int c, int m, boolean looks) throws NoSuchElementException {
        needChest(c);
        needMark(m);
        int is = scene.now.markOf(c, m);
        return looks && scene.now.lit ? scene.plan.byLamp(m, is) : is;
    }

    public int chest(int c, int what) throws NoSuchElementException, IllegalArgumentException {
        needChest(c);
        needWhat(what, 2);
        if (what == 0) {
            return scene.now.isIn(c) ? 1 : 0;
        }
        return what == 1 ? scene.now.truth(c) : Integer.bitCount(scene.now.alikeTo(c));
    }

    public int word(int w, int what) throws NoSuchElementException, IllegalArgumentException {
        needWord(w);
        needWhat(what, 3);
        if (what == 0) {
            return scene.plan.costs[w];
        }
        if (what == 3) {
            return scene.now.holders(w);
        }
        return (what == 1 ? scene.plan.sound : scene.now.used) >> w & 1;
    }

    public boolean holds(int w, int c, boolean lamp) throws NoSuchElementException {
        needWord(w);
        needChest(c);
        return (scene.now.truthBy(c, lamp) >> w & 1) == 1;
    }

    // ---- descriptions

    public int fits(int description) throws IllegalArgumentException {
        needDescription(description);
        return scene.now.fitted(description);
    }

    public int tells(int description) throws IllegalArgumentException {
        needDescription(description);
        return scene.now.toldBy(description);
    }

    public int cost(int description) throws IllegalArgumentException {
        needDescription(description);
        return scene.now.costOf(scene.plan, description);
    }

    public int least(int c) throws NoSuchElementException, IllegalStateException {
        needChestIn(c);
        return Describer.numberIn(describer.cheapest(scene.plan, scene.now, c, SAID));
    }

    public int blind(int c) throws NoSuchElementException, IllegalStateException {
        needChestIn(c);
        return Describer.numberIn(describer.cheapest(scene.plan, scene.now, c, scene.plan.sound));
    }

    public int sure(int c) throws NoSuchElementException, IllegalStateException {
        needChestIn(c);
        return Describer.numberIn(describer.cheapestByAnyLight(scene.plan, scene.now, c));
    }

    public int price(int c) throws NoSuchElementException, IllegalStateException {
        needChestIn(c);
        return Describer.costIn(describer.cheapest(scene.plan, scene.now, c, SAID));
    }

    public int hardest() {
        int hardest = NONE;
        int most = NONE;
        for (int c = 0; c < scene.plan.chests; c++) {
            if (scene.now.isIn(c)) {
                int asked = Describer.costIn(describer.cheapest(scene.plan, scene.now, c, SAID));
                int hard = asked == NONE ? Integer.MAX_VALUE : asked;
                if (hard > most) {
                    most = hard;
                    hardest = c;
                }
            }
        }
        return hardest;
    }

    public int ways(int c) throws NoSuchElementException, IllegalStateException {
        needChestIn(c);
        return describer.tellingBelow(scene.plan, scene.now, c, Integer.MAX_VALUE);
    }

    public int rank(int description) throws IllegalArgumentException {
        needDescription(description);
        int c = scene.now.toldBy(description);
        if (c == NONE) {
            return NONE;
        }
        return describer.tellingBelow(scene.plan, scene.now, c, scene.now.costOf(scene.plan, description));
    }

    public int shorter(int description) throws IllegalArgumentException {
        needDescription(description);
        int same = scene.now.fitted(description);
        int left = description;
        for (int bit = 2 * MOST_WORDS - 1; bit >= 0; bit--) {
            int without = left & ~(1 << bit);
            if (scene.now.fitted(without) == same) {
                left = without;
            }
        }
        return left;
    }

    // ---- deeds

    public int claim(int p, int description)
            throws NoSuchElementException, IllegalStateException, IllegalArgumentException {
        needPerson(p);
        needStake();
        needDescription(description);
        scene.remember();
        scene.now.claims[p] = description;
        return scene.now.toldBy(description) == scene.now.stake ? 1 : 0;
    }

    public int settle() throws IllegalStateException {
        needStake();
        scene.remember();
        return scene.now.settleClaims(scene.plan);
    }

    public int lamp() {
        scene.remember();
        scene.now.lit = !scene.now.lit;
        return scene.now.lit ? 1 : 0;
    }

    public int carry(int c) throws NoSuchElementException {
        needChest(c);
        scene.remember();
        scene.now.carryChest(c);
        return scene.now.isIn(c) ? 1 : 0;
    }

    public int change(int c, int m, int v) throws NoSuchElementException, IllegalArgumentException {
        needChest(c);
        needMark(m);
        if (v < 0 || v >= NUMBERS_A_MARK) {
            throw new IllegalArgumentException("a mark is 0 to 9");
        }
        int was = scene.now.markOf(c, m);
        scene.remember();
        scene.now.setMark(c, m, v);
        scene.now.learn(scene.plan, reckoner, c);
        return was;
    }

    public int stake(int c) throws NoSuchElementException, IllegalStateException {
        needChestIn(c);
        int was = scene.now.stake;
        scene.remember();
        scene.now.setStake(c);
        return was;
    }

    public int person(int p, int what) throws NoSuchElementException, IllegalArgumentException {
        needPerson(p);
        needWhat(what, 1);
        return what == 0 ? scene.now.claims[p] : scene.now.wins[p];
    }

    public int winner() {
        return scene.now.winning(scene.plan);
    }

    public int undo(int n) throws IllegalArgumentException {
        if (n < 1 || n > MOST_UNDONE || n > scene.remembered) {
            throw new IllegalArgumentException("not so many deeds can be undone");
        }
        scene.goBack(n);
        return scene.remembered;
    }

    public int judge(int tray, int what)
            throws NoSuchElementException, IllegalStateException, IllegalArgumentException {
        Tray told = needFilledTray(tray);
        needWhat(what, 3);
        trial.takeFrom(scene.now);
        int failed = NONE;
        for (int i = 0; i < told.many && failed == NONE; i++) {
            if (canBe(trial, told.cells[i])) {
                doTold(trial, (int) told.cells[i]);
            } else {
                failed = i;
            }
        }
        if (what == 0) {
            return failed;
        }
        if (what == 1) {
            return failed == NONE ? 0 : 1;
        }
        return what == 2 ? trial.in : trial.stake;
    }

    public int perform(int tray) throws NoSuchElementException, IllegalStateException {
        Tray told = needFilledTray(tray);
        int done = 0;
        while (done < told.many && canBe(scene.now, told.cells[done])) {
            scene.remember();
            doTold(scene.now, (int) told.cells[done]);
            done++;
        }
        return done;
    }

    private boolean canBe(State state, long told) {
        if (told >= 0 && told < TOLD_CHANGES) {
            return told / 100 < scene.plan.chests && told / 10 % 10 < scene.plan.marks;
        }
        if (told >= TOLD_CARRY && told < TOLD_CARRY + MOST_CHESTS) {
            return told - TOLD_CARRY < scene.plan.chests;
        }
        return told == TOLD_LAMP || told == NONE && state.stake != NONE;
    }

    private void doTold(State state, int told) {
        if (told == NONE) {
            state.settleClaims(scene.plan);
        } else if (told == TOLD_LAMP) {
            state.lit = !state.lit;
        } else if (told >= TOLD_CARRY) {
            state.carryChest(told - TOLD_CARRY);
        } else {
            state.setMark(told / 100, told / 10 % 10, told % 10);
            state.learn(scene.plan, reckoner, told / 100);
        }
    }

    public int night(int seed, int times) throws IllegalArgumentException, IllegalStateException {
        if (times < 1 || times > MOST_TIMES) {
            throw new IllegalArgumentException("a night has 1 to 30 times");
        }
        int chests = scene.plan.chests;
        int marks = scene.plan.marks;
        if (chests < 1 || marks < 1) {
            throw new IllegalStateException("there are no chests");
        }
        int x = seed;
        for (int i = 0; i < times; i++) {
            scene.remember();
            x = afterDraw(x);
            int sort = (x >>> 16) % 3;
            if (sort == 0) {
                scene.now.lit = !scene.now.lit;
                continue;
            }
            x = afterDraw(x);
            int c = (x >>> 16) % chests;
            if (sort == 2) {
                scene.now.carryChest(c);
                continue;
            }
            x = afterDraw(x);
            int m = (x >>> 16) % marks;
            x = afterDraw(x);
            scene.now.setMark(c, m, (x >>> 16) % NUMBERS_A_MARK);
            scene.now.learn(scene.plan, reckoner, c);
        }
        return times;
    }

    private static int afterDraw(int x) {
        return 1103515245 * x + 12345;
    }

    // ---- all of them

    public int hardened(int c, int n)
            throws NoSuchElementException, IllegalStateException, IllegalArgumentException {
        needChestIn(c);
        if (Integer.bitCount(scene.plan.allChests() & ~scene.now.in) > MOST_OUT) {
            throw new IllegalStateException("more than 6 chests are out");
        }
        if (n < 1 || n > MOST_HARD) {
            throw new IllegalArgumentException("so hard is 1 to 99");
        }
        return describer.fewestThatHarden(scene.plan, scene.now, c, n);
    }

    public int book() {
        return asker.fewestWords(scene.plan, scene.now);
    }

    public int asking(int what) throws IllegalArgumentException {
        needWhat(what, 1);
        return what == 0 ? asker.questions(scene.plan, scene.now) : asker.firstQuestion(scene.plan, scene.now);
    }

    public int fresh(int c, int what) throws NoSuchElementException, IllegalArgumentException {
        needChest(c);
        int m = what - 10;
        if (what != 0 && (m < 0 || m >= MOST_MARKS)) {
            throw new IllegalArgumentException("no such question");
        }
        if (what != 0 && m >= scene.plan.marks) {
            return NONE;
        }
        int changed = maker.make(scene.plan, scene.now, c);
        return what == 0 || changed == NONE ? changed : maker.looks.look[m];
    }

    public int twins() {
        int twins = 0;
        for (int c = 0; c < scene.plan.chests; c++) {
            if (scene.now.isIn(c) && scene.now.alikeTo(c) != 0) {
                twins |= 1 << c;
            }
        }
        return twins;
    }

    public int parts() {
        int all = Integer.bitCount(scene.now.in);
        int best = NONE;
        int least = all + 1;
        for (int w = 0; w < scene.plan.words; w++) {
            int holding = Integer.bitCount(scene.now.holders(w));
            int greater = Math.max(holding, all - holding);
            if (greater < least) {
                least = greater;
                best = w;
            }
        }
        return best;
    }

    public int idle() {
        int idle = 0;
        for (int w = 0; w < scene.plan.words; w++) {
            int holding = scene.now.holders(w);
            if (holding == 0 || holding == scene.now.in) {
                idle |= 1 << w;
            }
        }
        return idle;
    }

    public int nearest(int c) throws NoSuchElementException {
        needChest(c);
        int nearest = NONE;
        int least = MOST_WORDS + 1;
        for (int d = 0; d < scene.plan.chests; d++) {
            if (d != c && scene.now.isIn(d)) {
                int apart = Integer.bitCount(scene.now.truth(c) ^ scene.now.truth(d));
                if (apart < least) {
                    least = apart;
                    nearest = d;
                }
            }
        }
        return nearest;
    }

    public int differ(int c, int d) throws NoSuchElementException {
        needChest(c);
        needChest(d);
        return scene.now.truth(c) ^ scene.now.truth(d);
    }

    public int common(int set) throws IllegalArgumentException {
        if (set == 0 || (set & ~scene.now.in) != 0) {
            throw new IllegalArgumentException("no set of chests in the hall");
        }
        int said = scene.plan.allWords();
        int denied = scene.plan.allWords();
        for (int c = 0; c < scene.plan.chests; c++) {
            if ((set >> c & 1) == 1) {
                said &= scene.now.truth(c);
                denied &= ~scene.now.truth(c);
            }
        }
        return said | denied << MOST_WORDS;
    }

    public int changing() {
        int changing = 0;
        for (int c = 0; c < scene.plan.chests; c++) {
            if (scene.now.truthBy(c, true) != scene.now.truthBy(c, false)) {
                changing |= 1 << c;
            }
        }
        return changing;
    }

    public int greedy(int c) throws NoSuchElementException, IllegalStateException {
        needChestIn(c);
        return describer.wordByWord(scene.plan, scene.now, c);
    }

    // ---- trays, images

    public void tray(int tray, int sort, int many) throws NoSuchElementException, IllegalArgumentException {
        needTray(tray);
        if (sort < 0 || sort >= SORTS || many < 0 || many > MOST_PLACES) {
            throw new IllegalArgumentException("no such row");
        }
        trays[tray].lay(sort, many);
    }

    public long write(int tray, int place, long v)
            throws NoSuchElementException, IllegalStateException, IndexOutOfBoundsException {
        Tray filled = needFilledTray(tray);
        if (place < 0 || place >= filled.many) {
            throw new IndexOutOfBoundsException("the tray has no such place");
        }
        filled.cells[place] = filled.cut(v);
        return filled.cells[place];
    }

    public int copy(int tray) throws NoSuchElementException, IllegalStateException {
        Tray filled = needFilledTray(tray);
        int many = 0;
        for (int c = 0; c < scene.plan.chests && many < filled.many; c++) {
            if (scene.now.isIn(c)) {
                filled.cells[many] = c;
                many++;
            }
        }
        return many;
    }

    public void image(int i) throws NoSuchElementException {
        needImage(i);
        if (images[i] == null) {
            images[i] = new Scene();
        }
        images[i].takeFrom(scene);
    }

    public void restore(int i) throws NoSuchElementException, IllegalStateException {
        needImage(i);
        Scene kept = images[i];
        if (kept == null) {
            throw new IllegalStateException("no such image was made");
        }
        scene.takeFrom(kept);
    }

    public int count(int what) {
        switch (what) {
            case 0: return scene.plan.lines;
            case 1: return scene.plan.marks;
            case 2: return scene.plan.chests;
            case 3: return Integer.bitCount(scene.now.in);
            case 4: return scene.plan.words;
            case 5: return Integer.bitCount(scene.now.used);
            case 6: return scene.plan.people;
            case 7: return scene.now.stake;
            case 8: return scene.now.lit ? 1 : 0;
            case 9: return scene.now.claimants();
            case 10: return scene.plan.hire;
            case 11: return scene.remembered;
            case 12: return taped;
            default: return NONE;
        }
    }

    // ---- what calls need

    private void needChest(int c) {
        if (c < 0 || c >= scene.plan.chests) {
            throw new NoSuchElementException("no such chest");
        }
    }

    private void needChestIn(int c) {
        needChest(c);
        if (!scene.now.isIn(c)) {
            throw new IllegalStateException("the chest isn't in the hall");
        }
    }

    private void needMark(int m) {
        if (m < 0 || m >= scene.plan.marks) {
            throw new NoSuchElementException("no such mark");
        }
    }

    private void needWord(int w) {
        if (w < 0 || w >= scene.plan.words) {
            throw new NoSuchElementException("no such word");
        }
    }

    private void needPerson(int p) {
        if (p < 0 || p >= scene.plan.people) {
            throw new NoSuchElementException("no such person");
        }
    }

    private void needStake() {
        if (scene.now.stake == NONE) {
            throw new IllegalStateException("there is no stake");
        }
    }

    private void needWhat(int what, int last) {
        if (what < 0 || what > last) {
            throw new IllegalArgumentException("no such question");
        }
    }

    private void needDescription(int description) {
        int said = description & SAID;
        int denied = description >>> MOST_WORDS;
        if (((said | denied) & ~scene.plan.allWords()) != 0 || (said & denied) != 0) {
            throw new IllegalArgumentException("no description");
        }
    }

    private void needTray(int tray) {
        if (tray < 0 || tray >= TRAYS) {
            throw new NoSuchElementException("no such tray");
        }
    }

    private Tray needFilledTray(int tray) {
        needTray(tray);
        Tray filled = trays[tray];
        if (filled.missing) {
            throw new IllegalStateException("the tray is missing");
        }
        return filled;
    }

    private void needImage(int i) {
        if (i < 0 || i >= IMAGES) {
            throw new NoSuchElementException("no such image");
        }
    }

    /** What a token of the hall's text can be. */
    private enum Token {
        MARKS("marks"), CHEST("chest"), SPARE("spare"), WORD("word"), SOUND("sound"), COST("cost"),
        LAMP("lamp"), HIRE("hire"), PEOPLE("people"),
        OR("or"), AND("and"), NOT("not"),
        MARK("m"), HAS("has"), SUM("sum"), ALIKE("alike"), OWN_NUMBER("number"),
        SEMICOLON(";"), COLON(":"), PLUS("+"), MINUS("-"), TIMES("*"),
        OPEN_SUM("("), CLOSE_SUM(")"), OPEN_TRUTH("["), CLOSE_TRUTH("]"),
        EQUAL("="), BELOW("<"), ABOVE(">"),
        NUMBER(""), UNKNOWN(""), BAD(""), END("");

        private static final Token[] ALL = values();
        private final String text;

        Token(String text) {
            this.text = text;
        }

        /** The token that some bytes spell; if there is none, another one. */
        static Token spelled(byte[] bytes, int from, int to, Token other) {
            for (int i = 0; i < ALL.length; i++) {
                if (ALL[i].isSpelled(bytes, from, to)) {
                    return ALL[i];
                }
            }
            return other;
        }

        private boolean isSpelled(byte[] bytes, int from, int to) {
            if (text.length() != to - from || from < 0 || to > bytes.length) {
                return false;
            }
            for (int i = from; i < to; i++) {
                if (text.charAt(i - from) != (bytes[i] & 255)) {
                    return false;
                }
            }
            return true;
        }
    }

    /** The tokens of a text; the last one is its end. */
    private static final class Tokens {
        private static final int MOST_DIGITS = 3;

        private final Token[] kinds = new Token[MOST_BYTES + 1];
        private final int[] starts = new int[MOST_BYTES + 1];
        private final int[] values = new int[MOST_BYTES + 1];
        private byte[] text = new byte[0];
        private int length;
        private int behind;
        private int at;
        int many;
        /** What stands there now. */
        Token kind = Token.END;
        int start;
        int value;

        /** All are found ahead of the parsing, which so has none but whole tokens to look at. */
        void open(byte[] bytes, int bytesUsed) {
            text = bytes;
            length = Math.min(Math.min(bytesUsed, bytes.length), MOST_BYTES);
            behind = 0;
            at = NONE;
            many = 0;
            Token found = Token.BAD;
            for (int i = 0; i <= MOST_BYTES && found != Token.END; i++) {
                skipBlanks();
                starts[i] = behind;
                found = scan();
                kinds[i] = found;
                values[i] = value;
                many++;
            }
            next();
        }

        void next() {
            if (at + 1 < many) {
                at++;
                kind = kinds[at];
                start = starts[at];
                value = values[at];
            }
        }

        private void skipBlanks() {
            while (behind < length && (text[behind] == 10 || text[behind] == 32)) {
                behind++;
            }
        }

        private Token scan() {
            int from = behind;
            value = 0;
            if (behind >= length) {
                return Token.END;
            }
            if (isDigit(text[behind])) {
                return scanNumber();
            }
            if (isLetter(text[behind])) {
                while (behind < length && isLetter(text[behind])) {
                    behind++;
                }
                return Token.spelled(text, from, behind, Token.UNKNOWN);
            }
            behind++;
            return Token.spelled(text, from, behind, Token.BAD);
        }

        private Token scanNumber() {
            int digits = 0;
            while (behind < length && isDigit(text[behind])) {
                if (digits < MOST_DIGITS) {
                    value = value * 10 + text[behind] - '0';
                }
                digits++;
                behind++;
            }
            return digits > MOST_DIGITS ? Token.BAD : Token.NUMBER;
        }

        private static boolean isLetter(int sign) {
            return sign >= 'a' && sign <= 'z';
        }

        private static boolean isDigit(int sign) {
            return sign >= '0' && sign <= '9';
        }
    }

    /** Reads a text into a plan, or tells its first fault. */
    private static final class Parser {
        private static final int NO_TOKEN = 1;
        private static final int OUT_OF_PLACE = 2;
        private static final int OUT_OF_BOUNDS = 3;
        private static final int TOO_MANY = 4;
        /** Three digits. */
        private static final int MOST_NUMBER = 999;

        private final Tokens tokens = new Tokens();
        private int cells;
        private Plan plan = new Plan();
        int fault;
        int place = NONE;

        /** The plan; null if the text has a fault. */
        Plan read(byte[] text, int length) {
            fault = 0;
            place = NONE;
            cells = 0;
            plan = new Plan();
            tokens.open(text, length);
            // no token makes more than one cell
            plan.code = new int[tokens.many];
            take(Token.MARKS);
            plan.marks = takeNumber(1, MOST_MARKS);
            take(Token.SEMICOLON);
            plan.lines = 1;
            for (int i = 0; i < MOST_BYTES && fault == 0 && !stands(Token.END); i++) {
                if (readLine()) {
                    readTruth(0);
                    endWord();
                }
                take(Token.SEMICOLON);
                plan.lines++;
            }
            return fault == 0 ? plan : null;
        }

        private void fail(int kind) {
            if (fault == 0) {
                fault = tokens.kind == Token.BAD ? NO_TOKEN : kind;
                place = tokens.start;
            }
        }

        private boolean stands(Token token) {
            return fault == 0 && tokens.kind == token;
        }

        private boolean takeIf(Token token) {
            boolean there = stands(token);
            if (there) {
                tokens.next();
            }
            return there;
        }

        private void take(Token token) {
            if (stands(token)) {
                tokens.next();
            } else {
                fail(OUT_OF_PLACE);
            }
        }

        /** The number that stands there; the lowest one it may be, if there is a fault. */
        private int takeNumber(int low, int high) {
            if (!stands(Token.NUMBER)) {
                fail(OUT_OF_PLACE);
                return low;
            }
            int value = tokens.value;
            if (value < low || value > high) {
                fail(OUT_OF_BOUNDS);
                return low;
            }
            tokens.next();
            return value;
        }

        /** Whether a TRUTH comes next: the line is a word's. All else of a line is read here. */
        private boolean readLine() {
            if (stands(Token.WORD)) {
                return readWord();
            }
            if (stands(Token.CHEST) || stands(Token.SPARE)) {
                readChest();
            } else if (stands(Token.LAMP)) {
                readLamp();
            } else if (takeIf(Token.HIRE)) {
                plan.hire = takeNumber(0, 9);
            } else if (takeIf(Token.PEOPLE)) {
                plan.people = takeNumber(1, MOST_PEOPLE);
            } else {
                fail(OUT_OF_PLACE);
            }
            return false;
        }

        private void readChest() {
            int c = plan.chests;
            if (c >= MOST_CHESTS) {
                fail(TOO_MANY);
                return;
            }
            if (stands(Token.CHEST)) {
                plan.in |= 1 << c;
            }
            tokens.next();
            int row = 0;
            for (int m = 0; m < plan.marks; m++) {
                row |= takeNumber(0, NUMBERS_A_MARK - 1) << 4 * m;
            }
            plan.rows[c] = row;
            plan.chests++;
        }

        private void readLamp() {
            if (plan.lamps >= MOST_LAMPS) {
                fail(TOO_MANY);
                return;
            }
            tokens.next();
            int m = takeNumber(0, plan.marks - 1);
            int is = takeNumber(0, NUMBERS_A_MARK - 1);
            int looks = takeNumber(0, NUMBERS_A_MARK - 1);
            plan.addLamp(m, is, looks);
        }

        private boolean readWord() {
            int w = plan.words;
            if (w >= MOST_WORDS) {
                fail(TOO_MANY);
                return false;
            }
            tokens.next();
            if (takeIf(Token.SOUND)) {
                plan.sound |= 1 << w;
            }
            plan.costs[w] = takeIf(Token.COST) ? takeNumber(1, 9) : 1;
            take(Token.COLON);
            plan.lastRead[w] = NONE;
            return fault == 0;
        }

        private void endWord() {
            plan.words++;
            if (plan.words < plan.starts.length) {
                plan.starts[plan.words] = cells;
            }
        }

        private void emit(int deed, int number) {
            if (fault == 0 && cells < plan.code.length) {
                plan.code[cells] = deed << Reckoner.DEED_SHIFT | number;
                cells++;
            }
        }

        /** The WORD that is read now reads these MARKS. */
        private void noteRead(int from, int to) {
            for (int m = from; m <= to; m++) {
                plan.read |= 1 << m;
            }
            if (plan.words < MOST_WORDS) {
                plan.lastRead[plan.words] = Math.max(plan.lastRead[plan.words], to);
            }
        }

        /** Whether one more of not [ ( may stand within so many; it is taken then. */
        private boolean mayNest(int nested) {
            if (nested >= MOST_NESTED) {
                fail(TOO_MANY);
                return false;
            }
            tokens.next();
            return true;
        }

        /** An or waits for its right side, since an and there binds closer. */
        private void readTruth(int nested) {
            boolean waits = false;
            readUnit(nested);
            for (int i = 0; i < MOST_BYTES && (stands(Token.AND) || stands(Token.OR)); i++) {
                if (takeIf(Token.AND)) {
                    readUnit(nested);
                    emit(Reckoner.AND, 0);
                } else {
                    if (waits) {
                        emit(Reckoner.OR, 0);
                    }
                    waits = true;
                    tokens.next();
                    readUnit(nested);
                }
            }
            if (waits) {
                emit(Reckoner.OR, 0);
            }
        }

        private void readUnit(int nested) {
            if (stands(Token.NOT)) {
                if (mayNest(nested)) {
                    readUnit(nested + 1);
                    emit(Reckoner.NOT, 0);
                }
            } else if (stands(Token.OPEN_TRUTH)) {
                if (mayNest(nested)) {
                    readTruth(nested + 1);
                    take(Token.CLOSE_TRUTH);
                }
            } else {
                readSum(nested);
                int deed = readSign();
                readSum(nested);
                emit(deed, 0);
            }
        }

        private int readSign() {
            if (takeIf(Token.EQUAL)) {
                return Reckoner.EQUAL;
            }
            if (takeIf(Token.BELOW)) {
                return Reckoner.BELOW;
            }
            take(Token.ABOVE);
            return Reckoner.ABOVE;
        }

        /** A + or - waits for its right side, since a * there binds closer. */
        private void readSum(int nested) {
            int waiting = NONE;
            readAtom(nested);
            for (int i = 0; i < MOST_BYTES
                    && (stands(Token.TIMES) || stands(Token.PLUS) || stands(Token.MINUS)); i++) {
                if (takeIf(Token.TIMES)) {
                    readAtom(nested);
                    emit(Reckoner.TIMES, 0);
                } else {
                    if (waiting != NONE) {
                        emit(waiting, 0);
                    }
                    waiting = stands(Token.PLUS) ? Reckoner.ADD : Reckoner.TAKE;
                    tokens.next();
                    readAtom(nested);
                }
            }
            if (waiting != NONE) {
                emit(waiting, 0);
            }
        }

        private void readAtom(int nested) {
            if (stands(Token.NUMBER)) {
                emit(Reckoner.NUMBER, takeNumber(0, MOST_NUMBER));
            } else if (takeIf(Token.MARK)) {
                int m = takeNumber(0, plan.marks - 1);
                noteRead(m, m);
                emit(Reckoner.MARK, m);
            } else if (takeIf(Token.HAS)) {
                noteRead(0, plan.marks - 1);
                emit(Reckoner.HAS, takeNumber(0, NUMBERS_A_MARK - 1));
            } else if (takeIf(Token.SUM)) {
                noteRead(0, plan.marks - 1);
                emit(Reckoner.SUM, 0);
            } else if (takeIf(Token.ALIKE)) {
                noteRead(0, plan.marks - 1);
                emit(Reckoner.ALIKE, 0);
            } else if (takeIf(Token.OWN_NUMBER)) {
                emit(Reckoner.OWN_NUMBER, 0);
            } else if (!stands(Token.OPEN_SUM)) {
                fail(OUT_OF_PLACE);
            } else if (mayNest(nested)) {
                readSum(nested + 1);
                take(Token.CLOSE_SUM);
            }
        }
    }

    /** What the text of a hall says; it stays as it was read. */
    private static final class Plan {
        int lines;
        int marks = 1;
        int chests;
        int in;
        int words;
        int sound;
        int lamps;
        int hire = 2;
        int people = 2;
        /** The MARKS that some WORD reads, as bits. */
        int read;
        /** A CHEST's MARKS, four bits each. */
        final int[] rows = new int[MOST_CHESTS];
        final int[] costs = new int[MOST_WORDS];
        /** Where each WORD's code begins; one more than WORDS. */
        final int[] starts = new int[MOST_WORDS + 1];
        /** The last MARK each WORD reads; NONE if it reads none. */
        final int[] lastRead = new int[MOST_WORDS];
        int[] code = new int[0];
        private final int[] lampLooks = new int[MOST_MARKS * NUMBERS_A_MARK];
        private long lampTold;

        int allChests() {
            return (1 << chests) - 1;
        }

        int allWords() {
            return (1 << words) - 1;
        }

        void addLamp(int m, int is, int looks) {
            int at = m * NUMBERS_A_MARK + is;
            if (at >= 0 && at < lampLooks.length && (lampTold >> at & 1) == 0) {
                lampTold |= 1L << at;
                lampLooks[at] = looks;
            }
            lamps++;
        }

        int byLamp(int m, int is) {
            int at = m * NUMBERS_A_MARK + is;
            return at >= 0 && at < lampLooks.length && (lampTold >> at & 1) == 1 ? lampLooks[at] : is;
        }
    }

    /** Reckons what WORDS hold for a CHEST that looks so. */
    private static final class Reckoner {
        static final int DEED_SHIFT = 10;
        static final int NUMBER = 0;
        static final int MARK = 1;
        static final int HAS = 2;
        static final int SUM = 3;
        static final int ALIKE = 4;
        static final int OWN_NUMBER = 5;
        static final int NOT = 6;
        static final int AND = 7;
        static final int OR = 8;
        static final int EQUAL = 9;
        static final int BELOW = 10;
        static final int ABOVE = 11;
        static final int ADD = 12;
        static final int TAKE = 13;
        static final int TIMES = 14;

        private static final int NUMBER_MASK = (1 << DEED_SHIFT) - 1;
        private static final int FAR = 1000000;
        /** Two a level of truth, three of sums: a text of at most six nested ones needs fewer. */
        private static final int MOST_STACKED = 40;

        final int[] look = new int[MOST_MARKS];
        private final int[] stack = new int[MOST_STACKED];
        private int marks;
        private int ownNumber;

        void face(Plan plan, int row, boolean lit, int number) {
            marks = Math.min(plan.marks, MOST_MARKS);
            ownNumber = number;
            for (int m = 0; m < marks; m++) {
                int is = row >> 4 * m & 15;
                look[m] = lit ? plan.byLamp(m, is) : is;
            }
        }

        int allTruths(Plan plan) {
            int truths = 0;
            for (int w = 0; w < plan.words; w++) {
                if (isTrue(plan, w)) {
                    truths |= 1 << w;
                }
            }
            return truths;
        }

        boolean isTrue(Plan plan, int w) {
            int end = Math.min(plan.starts[w + 1], plan.code.length);
            int top = 0;
            for (int i = plan.starts[w]; i < end; i++) {
                int deed = plan.code[i] >> DEED_SHIFT;
                if (deed <= OWN_NUMBER) {
                    if (top < MOST_STACKED) {
                        stack[top] = atom(deed, plan.code[i] & NUMBER_MASK);
                        top++;
                    }
                } else if (deed == NOT) {
                    if (top > 0) {
                        stack[top - 1] = 1 - stack[top - 1];
                    }
                } else if (top > 1) {
                    top--;
                    stack[top - 1] = join(deed, stack[top - 1], stack[top]);
                }
            }
            return stack[0] != 0;
        }

        private int atom(int deed, int number) {
            switch (deed) {
                case NUMBER: return number;
                case MARK: return number < MOST_MARKS ? look[number] : 0;
                case HAS: return someLooks(number);
                case SUM: return sumOfLooks();
                case ALIKE: return pairsAlike();
                default: return ownNumber;
            }
        }

        private static int join(int deed, int left, int right) {
            switch (deed) {
                case AND: return left & right;
                case OR: return left | right;
                case EQUAL: return left == right ? 1 : 0;
                case BELOW: return left < right ? 1 : 0;
                case ABOVE: return left > right ? 1 : 0;
                case ADD: return kept((long) left + right);
                case TAKE: return kept((long) left - right);
                default: return kept((long) left * right);
            }
        }

        private static int kept(long far) {
            return far > FAR ? FAR : far < -FAR ? -FAR : (int) far;
        }

        private int someLooks(int number) {
            for (int m = 0; m < marks; m++) {
                if (look[m] == number) {
                    return 1;
                }
            }
            return 0;
        }

        private int sumOfLooks() {
            int sum = 0;
            for (int m = 0; m < marks; m++) {
                sum += look[m];
            }
            return sum;
        }

        private int pairsAlike() {
            int pairs = 0;
            for (int m = 1; m < marks; m++) {
                for (int k = 0; k < m; k++) {
                    if (look[m] == look[k]) {
                        pairs++;
                    }
                }
            }
            return pairs;
        }
    }

    /** All that DEEDS change. */
    private static final class State {
        private final int[] rows = new int[MOST_CHESTS];
        private final int[] dayTruths = new int[MOST_CHESTS];
        private final int[] lampTruths = new int[MOST_CHESTS];
        final int[] claims = new int[MOST_PEOPLE];
        final int[] wins = new int[MOST_PEOPLE];
        int in;
        int stake = NONE;
        int used;
        boolean lit;

        State() {
            Arrays.fill(claims, NONE);
        }

        void takeFrom(State other) {
            System.arraycopy(other.rows, 0, rows, 0, MOST_CHESTS);
            System.arraycopy(other.dayTruths, 0, dayTruths, 0, MOST_CHESTS);
            System.arraycopy(other.lampTruths, 0, lampTruths, 0, MOST_CHESTS);
            System.arraycopy(other.claims, 0, claims, 0, MOST_PEOPLE);
            System.arraycopy(other.wins, 0, wins, 0, MOST_PEOPLE);
            in = other.in;
            stake = other.stake;
            used = other.used;
            lit = other.lit;
        }

        void begin(Plan plan, Reckoner reckoner) {
            System.arraycopy(plan.rows, 0, rows, 0, MOST_CHESTS);
            for (int c = 0; c < plan.chests; c++) {
                learn(plan, reckoner, c);
            }
            Arrays.fill(wins, 0);
            in = plan.in;
            used = 0;
            lit = false;
            setStake(firstIn());
        }

        /** Truths are kept by both lights, since most calls ask for them and few change a MARK. */
        void learn(Plan plan, Reckoner reckoner, int c) {
            reckoner.face(plan, rows[c], false, c);
            dayTruths[c] = reckoner.allTruths(plan);
            reckoner.face(plan, rows[c], true, c);
            lampTruths[c] = reckoner.allTruths(plan);
        }

        int markOf(int c, int m) {
            return rows[c] >> 4 * m & 15;
        }

        void setMark(int c, int m, int v) {
            rows[c] = rows[c] & ~(15 << 4 * m) | v << 4 * m;
        }

        boolean isIn(int c) {
            return (in >> c & 1) == 1;
        }

        int truthBy(int c, boolean lamp) {
            return lamp ? lampTruths[c] : dayTruths[c];
        }

        int truth(int c) {
            return truthBy(c, lit);
        }

        int holders(int w) {
            int holders = 0;
            for (int c = 0; c < MOST_CHESTS; c++) {
                if (isIn(c) && (truth(c) >> w & 1) == 1) {
                    holders |= 1 << c;
                }
            }
            return holders;
        }

        int alikeTo(int c) {
            int alike = 0;
            for (int d = 0; d < MOST_CHESTS; d++) {
                if (d != c && isIn(d) && truth(d) == truth(c)) {
                    alike |= 1 << d;
                }
            }
            return alike;
        }

        int fitted(int description) {
            int said = description & SAID;
            int denied = description >>> MOST_WORDS;
            int fitted = 0;
            for (int c = 0; c < MOST_CHESTS; c++) {
                if (isIn(c) && (truth(c) & (said | denied)) == said) {
                    fitted |= 1 << c;
                }
            }
            return fitted;
        }

        int toldBy(int description) {
            int fitted = fitted(description);
            return Integer.bitCount(fitted) == 1 ? Integer.numberOfTrailingZeros(fitted) : NONE;
        }

        int costOf(Plan plan, int description) {
            int cost = 0;
            for (int w = 0; w < plan.words; w++) {
                if ((description >> w & 1) == 1) {
                    cost += wordCost(plan, w, false);
                } else if ((description >> w + MOST_WORDS & 1) == 1) {
                    cost += wordCost(plan, w, true);
                }
            }
            return cost;
        }

        int wordCost(Plan plan, int w, boolean denied) {
            return plan.costs[w] + (denied ? 1 : 0) + ((used >> w & 1) == 1 ? plan.hire : 0);
        }

        int firstIn() {
            return in == 0 ? NONE : Integer.numberOfTrailingZeros(in);
        }

        void setStake(int c) {
            stake = c;
            Arrays.fill(claims, NONE);
        }

        void carryChest(int c) {
            in ^= 1 << c;
            if (stake == NONE || !isIn(stake)) {
                setStake(firstIn());
            }
        }

        int claimants() {
            int many = 0;
            for (int p = 0; p < MOST_PEOPLE; p++) {
                if (claims[p] != NONE) {
                    many++;
                }
            }
            return many;
        }

        int winning(Plan plan) {
            int winner = NONE;
            int least = Integer.MAX_VALUE;
            for (int p = 0; p < MOST_PEOPLE; p++) {
                if (stake != NONE && claims[p] != NONE && toldBy(claims[p]) == stake) {
                    int cost = costOf(plan, claims[p]);
                    if (cost < least) {
                        least = cost;
                        winner = p;
                    }
                }
            }
            return winner;
        }

        int settleClaims(Plan plan) {
            int winner = winning(plan);
            if (winner != NONE) {
                wins[winner]++;
                used |= claims[winner] & SAID | claims[winner] >>> MOST_WORDS;
                in &= ~(1 << stake);
            }
            setStake(nextIn(stake));
            return winner;
        }

        /** The first CHEST IN behind one; behind the last the first again. */
        private int nextIn(int c) {
            int behind = in & -2 << c;
            return behind == 0 ? firstIn() : Integer.numberOfTrailingZeros(behind);
        }
    }

    /** A hall with all that was done in it: what an IMAGE keeps. */
    private static final class Scene {
        Plan plan = new Plan();
        final State now = new State();
        /** States ahead of the latest DEEDS, in a ring: next is where the next one comes. */
        private final State[] past = new State[MOST_UNDONE];
        private int next;
        int remembered;

        Scene() {
            for (int i = 0; i < MOST_UNDONE; i++) {
                past[i] = new State();
            }
        }

        void open(Plan made, Reckoner reckoner) {
            plan = made;
            now.begin(made, reckoner);
            next = 0;
            remembered = 0;
        }

        void takeFrom(Scene other) {
            plan = other.plan;
            now.takeFrom(other.now);
            for (int i = 0; i < MOST_UNDONE; i++) {
                past[i].takeFrom(other.past[i]);
            }
            next = other.next;
            remembered = other.remembered;
        }

        void remember() {
            past[next].takeFrom(now);
            next = (next + 1) % MOST_UNDONE;
            remembered = Math.min(remembered + 1, MOST_UNDONE);
        }

        void goBack(int deeds) {
            next = Math.floorMod(next - deeds, MOST_UNDONE);
            remembered -= deeds;
            now.takeFrom(past[next]);
        }
    }

    /** A row of numbers of one sort. */
    private static final class Tray {
        boolean missing = true;
        int many;
        final long[] cells = new long[MOST_PLACES];
        private int sort;

        void lay(int newSort, int places) {
            missing = false;
            sort = newSort;
            many = places;
            Arrays.fill(cells, 0L);
        }

        long cut(long v) {
            switch (sort) {
                case 0: return (byte) v;
                case 1: return (short) v;
                case 2: return (int) v;
                default: return v;
            }
        }
    }

    /**
     * Seeks DESCRIPTIONS that TELL a CHEST. Such a one says none but WORDS that hold for the CHEST and
     * denies none but others, so it is a set of WORDS, and all of them are weighed in one row.
     */
    private static final class Describer {
        private static final int COST_SHIFT = 32;
        private static final int NUMBER_BITS = 2 * MOST_WORDS;

        /** For each set of WORDS: whom it FITS, and above COST_SHIFT what it COSTS. */
        private final long[] rows = new long[1 << MOST_WORDS];
        private final int[] agree = new int[MOST_WORDS];
        private final int[] costs = new int[MOST_WORDS];

        static int numberIn(long found) {
            return found == NONE ? NONE : (int) (found & (1 << NUMBER_BITS) - 1);
        }

        static int costIn(long found) {
            return found == NONE ? NONE : (int) (found >> NUMBER_BITS);
        }

        /** The least of a CHEST by some WORDS, its number below its COST; NONE. */
        long cheapest(Plan plan, State state, int c, int words) {
            int allowed = words & plan.allWords();
            weighNow(plan, state, c);
            spread(plan, allowed, state.in);
            return leastOfRows(allowed, state.truth(c), 1 << c);
        }

        /** As cheapest, of those that TELL it by day and by lamp: both lights side by side in the row. */
        long cheapestByAnyLight(Plan plan, State state, int c) {
            int day = state.truthBy(c, false);
            int allowed = plan.allWords() & ~(day ^ state.truthBy(c, true));
            for (int w = 0; w < plan.words; w++) {
                agree[w] = agreeing(state, c, w, false) | agreeing(state, c, w, true) << MOST_CHESTS;
                costs[w] = state.wordCost(plan, w, (day >> w & 1) == 0);
            }
            spread(plan, allowed, state.in | state.in << MOST_CHESTS);
            return leastOfRows(allowed, day, 1 << c | 1 << c + MOST_CHESTS);
        }

        /** How many DESCRIPTIONS TELL a CHEST at less than so much. */
        int tellingBelow(Plan plan, State state, int c, int cost) {
            weighNow(plan, state, c);
            spread(plan, plan.allWords(), state.in);
            int many = 0;
            for (int set = 0; set <= plan.allWords(); set++) {
                if ((int) rows[set] == 1 << c && rows[set] >> COST_SHIFT < cost) {
                    many++;
                }
            }
            return many;
        }

        int fewestThatHarden(Plan plan, State state, int c, int n) {
            int out = plan.allChests() & ~state.in;
            weighNow(plan, state, c);
            spread(plan, plan.allWords(), plan.allChests());
            int best = NONE;
            int fewest = MOST_CHESTS + 1;
            int brought = 0;
            for (int i = 0; i < 1 << MOST_OUT; i++) {
                if (Integer.bitCount(brought) < fewest && isHard(plan, state.in | brought, c, n)) {
                    best = brought;
                    fewest = Integer.bitCount(brought);
                }
                brought = brought - out & out;
                if (brought == 0) {
                    break;
                }
            }
            return best;
        }

        private boolean isHard(Plan plan, int in, int c, int n) {
            for (int set = 0; set <= plan.allWords(); set++) {
                if (((int) rows[set] & in) == 1 << c && rows[set] >> COST_SHIFT < n) {
                    return false;
                }
            }
            return true;
        }

        int wordByWord(Plan plan, State state, int c) {
            weighNow(plan, state, c);
            int fitted = state.in;
            int words = 0;
            for (int i = 0; i < plan.words && Integer.bitCount(fitted) > 1; i++) {
                int w = sharpest(plan, fitted);
                if (w == NONE) {
                    return NONE;
                }
                words |= 1 << w;
                fitted &= agree[w];
            }
            return fitted == 1 << c ? described(words, state.truth(c)) : NONE;
        }

        private int sharpest(Plan plan, int fitted) {
            int best = NONE;
            int fewest = Integer.bitCount(fitted);
            for (int w = 0; w < plan.words; w++) {
                int left = Integer.bitCount(fitted & agree[w]);
                if (left < fewest || best != NONE && left == fewest && costs[w] < costs[best]) {
                    best = w;
                    fewest = left;
                }
            }
            return best;
        }

        private void weighNow(Plan plan, State state, int c) {
            for (int w = 0; w < plan.words; w++) {
                agree[w] = agreeing(state, c, w, state.lit);
                costs[w] = state.wordCost(plan, w, (state.truth(c) >> w & 1) == 0);
            }
        }

        private static int agreeing(State state, int c, int w, boolean lamp) {
            int agreeing = 0;
            for (int d = 0; d < MOST_CHESTS; d++) {
                if (((state.truthBy(c, lamp) ^ state.truthBy(d, lamp)) >> w & 1) == 0) {
                    agreeing |= 1 << d;
                }
            }
            return agreeing;
        }

        private void spread(Plan plan, int allowed, int pool) {
            rows[0] = pool;
            for (int set = 1; set <= plan.allWords(); set++) {
                if ((set & ~allowed) == 0) {
                    int w = Integer.numberOfTrailingZeros(set);
                    long ahead = rows[set & set - 1];
                    long cost = (ahead >> COST_SHIFT) + costs[w];
                    rows[set] = cost << COST_SHIFT | (int) ahead & agree[w];
                }
            }
        }

        private long leastOfRows(int allowed, int truth, int goal) {
            long least = NONE;
            for (int set = 0; set <= allowed; set++) {
                if ((set & ~allowed) == 0 && (int) rows[set] == goal) {
                    long found = rows[set] >> COST_SHIFT << NUMBER_BITS | described(set, truth);
                    if (least == NONE || found < least) {
                        least = found;
                    }
                }
            }
            return least;
        }

        private static int described(int words, int truth) {
            return words & truth | (words & ~truth) << MOST_WORDS;
        }
    }

    /** Seeks WORDS by which all CHESTS IN the hall differ. */
    private static final class Asker {
        private static final int KNOWN_BITS = 4;
        private static final int KNOWN_MASK = (1 << KNOWN_BITS) - 1;
        private static final int KNOWN_A_CELL = 16;

        /** How many questions each set of CHESTS needs, four bits each; 0: not known yet. */
        private final long[] known = new long[(1 << MOST_CHESTS) / KNOWN_A_CELL];
        private final int[] holders = new int[MOST_WORDS];
        private final int[] differing = new int[MOST_CHESTS * (MOST_CHESTS - 1) / 2];
        private int words;

        /** BOOK; NONE. */
        int fewestWords(Plan plan, State state) {
            int pairs = learnPairs(state);
            int best = NONE;
            int fewest = MOST_WORDS + 1;
            for (int set = 0; set <= plan.allWords(); set++) {
                if (Integer.bitCount(set) < fewest && partsAll(set, pairs)) {
                    best = set;
                    fewest = Integer.bitCount(set);
                }
            }
            return best;
        }

        private int learnPairs(State state) {
            int pairs = 0;
            for (int c = 1; c < MOST_CHESTS; c++) {
                for (int d = 0; d < c && pairs < differing.length; d++) {
                    if (state.isIn(c) && state.isIn(d)) {
                        differing[pairs] = state.truth(c) ^ state.truth(d);
                        pairs++;
                    }
                }
            }
            return pairs;
        }

        private boolean partsAll(int set, int pairs) {
            for (int i = 0; i < pairs; i++) {
                if ((differing[i] & set) == 0) {
                    return false;
                }
            }
            return true;
        }

        /** How many questions at worst; NONE: some two are alike. */
        int questions(Plan plan, State state) {
            return begin(plan, state) ? needed(state.in, 0) : NONE;
        }

        /** The first WORD of the fewest questions; NONE. */
        int firstQuestion(Plan plan, State state) {
            if (!begin(plan, state)) {
                return NONE;
            }
            int all = needed(state.in, 0);
            for (int w = 0; w < words; w++) {
                int yes = state.in & holders[w];
                int no = state.in & ~holders[w];
                if (yes != 0 && no != 0 && Math.max(needed(yes, 1), needed(no, 1)) + 1 == all) {
                    return w;
                }
            }
            return NONE;
        }

        private boolean begin(Plan plan, State state) {
            words = plan.words;
            Arrays.fill(known, 0L);
            for (int w = 0; w < words; w++) {
                holders[w] = state.holders(w);
            }
            return partsAll(plan.allWords(), learnPairs(state));
        }

        /** A level asks one WORD more, and no WORD twice: there are no more levels than WORDS. */
        private int needed(int set, int level) {
            if (Integer.bitCount(set) < 2 || level > MOST_WORDS) {
                return 0;
            }
            int cell = set / KNOWN_A_CELL;
            int shift = set % KNOWN_A_CELL * KNOWN_BITS;
            if (cell < 0 || cell >= known.length) {
                return 0;
            }
            int best = (int) (known[cell] >> shift) & KNOWN_MASK;
            if (best == 0) {
                best = leastNeeded(set, level);
                known[cell] |= (long) best << shift;
            }
            return best;
        }

        private int leastNeeded(int set, int level) {
            int atLeast = 32 - Integer.numberOfLeadingZeros(Integer.bitCount(set) - 1);
            int best = MOST_WORDS + 1;
            for (int w = 0; w < words && best > atLeast; w++) {
                int yes = set & holders[w];
                int no = set & ~holders[w];
                if (yes != 0 && no != 0) {
                    int first = needed(yes, level + 1) + 1;
                    if (first < best) {
                        best = Math.min(best, Math.max(first, needed(no, level + 1) + 1));
                    }
                }
            }
            return best;
        }
    }

    /** Seeks a NEW CHEST. */
    private static final class Maker {
        final Reckoner looks = new Reckoner();
        private final int[] base = new int[MOST_MARKS];
        private final int[] holders = new int[MOST_WORDS];
        private Plan plan = new Plan();

        /** How many MARKS are changed, looks has them then; NONE. */
        int make(Plan of, State state, int c) {
            plan = of;
            for (int w = 0; w < plan.words; w++) {
                holders[w] = state.holders(w);
            }
            looks.face(plan, state.rows[c], state.lit, NONE);
            System.arraycopy(looks.look, 0, base, 0, MOST_MARKS);
            int alike = stillAlike(NONE, state.in);
            for (int changes = 0; changes <= MOST_NEW_MARKS; changes++) {
                if (isMade(0, changes, alike)) {
                    return changes;
                }
            }
            return NONE;
        }

        /** Whether MARKS from m on, just so many of them changed, can leave no CHEST of those alike. */
        private boolean isMade(int m, int changes, int alike) {
            if (m >= plan.marks || m >= MOST_MARKS) {
                return changes == 0 && alike == 0;
            }
            for (int v = 0; v < NUMBERS_A_MARK; v++) {
                int left = v == base[m] ? changes : changes - 1;
                // a MARK that no WORD reads is never among the fewest that are changed
                boolean may = v == base[m] || (plan.read >> m & 1) == 1;
                if (may && left >= 0 && left < plan.marks - m) {
                    looks.look[m] = v;
                    if (isMade(m + 1, left, stillAlike(m, alike))) {
                        return true;
                    }
                }
            }
            return false;
        }

        /** Those of some CHESTS that are alike by WORDS that read no MARK behind m, too. */
        private int stillAlike(int m, int chests) {
            int alike = chests;
            for (int w = 0; w < plan.words && alike != 0; w++) {
                if (plan.lastRead[w] == m) {
                    alike &= looks.isTrue(plan, w) ? holders[w] : ~holders[w];
                }
            }
            return alike;
        }
    }
}
