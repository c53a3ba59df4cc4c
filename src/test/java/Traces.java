import java.util.ArrayList;
import java.util.List;
import java.util.function.Consumer;
import java.util.function.LongSupplier;
import java.util.function.Supplier;

/**
 * All that the face can tell of objects that were made alike: what is now, what undoing brings back, IMAGES,
 * TRAYS, the tape. Looking wears an object out, so each side is looked at on one made anew.
 */
final class Traces {
    private static final int MOST_UNDONE = 10;
    private static final int IMAGES = 3;
    private static final int TRAYS = 4;
    private static final int PLACES = 31;

    private final Supplier<LeastWords> made;
    private final List<String> lines = new ArrayList<>();

    private Traces(Supplier<LeastWords> made) {
        this.made = made;
    }

    static List<String> of(Supplier<LeastWords> made) {
        Traces traces = new Traces(made);
        traces.all();
        return traces.lines;
    }

    private void all() {
        look("now", x -> { });
        for (int i = 1; i <= MOST_UNDONE; i++) {
            int n = i;
            look("undone " + n, x -> say("undo(" + n + ")", () -> x.undo(n)));
        }
        for (int i = 0; i < IMAGES; i++) {
            int image = i;
            look("image " + i, x -> bring(x, image));
            look("image " + i + ", undone", x -> {
                bring(x, image);
                say("undo", () -> x.undo(x.count(11)));
            });
        }
        for (int t = 0; t < TRAYS; t++) {
            lookAtTray(t);
        }
        look("the tape", x -> {
            say("hall", () -> x.hall(x.count(12)));
            counts(x);
        });
        look("by the other light, all chests in", x -> {
            x.lamp();
            for (int c = 0; c < x.count(2); c++) {
                if (x.chest(c, 0) == 0) {
                    x.carry(c);
                }
            }
        });
    }

    private void look(String side, Consumer<LeastWords> ahead) {
        lines.add("-- " + side);
        LeastWords x = made.get();
        ahead.accept(x);
        now(x);
    }

    private void bring(LeastWords x, int image) {
        say("restore(" + image + ")", () -> {
            x.restore(image);
            return 0;
        });
    }

    /** What it tells, what it has done, and how wide and how long it is. */
    private void lookAtTray(int tray) {
        look("tray " + tray, x -> {
            for (int what = 0; what <= 3; what++) {
                int asked = what;
                say("judge(" + tray + ", " + what + ")", () -> x.judge(tray, asked));
            }
            say("perform(" + tray + ")", () -> x.perform(tray));
        });
        LeastWords x = made.get();
        for (int place = 0; place < PLACES; place++) {
            int at = place;
            say("write(" + tray + ", " + place + ")", () -> x.write(tray, at, 0x123456789abcdef0L));
        }
    }

    private void now(LeastWords x) {
        counts(x);
        for (int c = 0; c < x.count(2); c++) {
            chest(x, c);
        }
        for (int i = 0; i < x.count(4); i++) {
            int w = i;
            for (int what = 0; what <= 3; what++) {
                int asked = what;
                say("word(" + w + ", " + what + ")", () -> x.word(w, asked));
            }
        }
        for (int i = 0; i < x.count(6); i++) {
            int p = i;
            say("person(" + p + ", 0)", () -> x.person(p, 0));
            say("person(" + p + ", 1)", () -> x.person(p, 1));
        }
        say("winner", x::winner);
        say("hardest", x::hardest);
        say("book", x::book);
        say("asking", () -> x.asking(0));
        say("changing", x::changing);
    }

    private void counts(LeastWords x) {
        say("fault(0)", () -> x.fault(0));
        say("fault(1)", () -> x.fault(1));
        for (int i = 0; i <= 12; i++) {
            int what = i;
            say("count(" + what + ")", () -> x.count(what));
        }
    }

    private void chest(LeastWords x, int c) {
        String of = " of chest " + c;
        for (int i = 0; i < x.count(1); i++) {
            int m = i;
            say("mark " + m + of, () -> x.mark(c, m, false));
            say("mark " + m + of + " as it looks", () -> x.mark(c, m, true));
        }
        say("in" + of, () -> x.chest(c, 0));
        say("words" + of, () -> x.chest(c, 1));
        say("least" + of, () -> x.least(c));
        say("blind" + of, () -> x.blind(c));
        say("price" + of, () -> x.price(c));
    }

    /** An answer, or what is thrown. */
    private void say(String call, LongSupplier answer) {
        String said;
        try {
            said = Long.toString(answer.getAsLong());
        } catch (RuntimeException e) {
            said = e.getClass().getSimpleName();
        }
        lines.add(call + ": " + said);
    }
}
