import java.nio.ByteBuffer;
import java.nio.charset.StandardCharsets;
import java.util.Arrays;
import java.util.List;
import java.util.function.Consumer;

/** What tests need to feed texts and to say what is due. */
final class Hands {
    interface Call {
        void run();
    }

    private int wrong = 0;
    private int asked = 0;

    /** Feeds a text and makes it the hall. */
    static int open(LeastWords x, String text) {
        feedText(x, text);
        return x.hall(text.length());
    }

    /** Feeds a text, and bytes of 0 up to a whole feed. */
    static void feedText(LeastWords x, String text) {
        byte[] bytes = text.getBytes(StandardCharsets.ISO_8859_1);
        ByteBuffer all = ByteBuffer.wrap(Arrays.copyOf(bytes, (bytes.length + 19) / 20 * 20));
        while (all.hasRemaining()) {
            x.feed(all.getInt(), all.getInt(), all.getInt(), all.getInt(), all.getInt());
        }
    }

    static LeastWords opened(String text) {
        LeastWords x = new LeastWords();
        if (open(x, text) < 0) {
            throw new IllegalStateException("a fault in " + text + " at " + x.fault(1));
        }
        return x;
    }

    static void fill(LeastWords x, int tray, int sort, long... told) {
        x.tray(tray, sort, told.length);
        for (int i = 0; i < told.length; i++) {
            x.write(tray, i, told[i]);
        }
    }

    /** A text that has a FAULT of a kind at a place. */
    void fault(String text, int kind, int place) {
        LeastWords x = new LeastWords();
        int answer = open(x, text);
        due(3, "hall of " + text, answer, -10 - kind);
        due(4, "fault(0) of " + text, x.fault(0), kind);
        due(4, "fault(1) of " + text, x.fault(1), place);
    }

    /** A text of so many LINES without a FAULT. */
    void right(String text, int lines) {
        LeastWords x = new LeastWords();
        due(3, "hall of " + text, open(x, text), lines);
        due(49, "count(0) of " + text, x.count(0), lines);
        due(4, "fault(0) of " + text, x.fault(0), 0);
        due(4, "fault(1) of " + text, x.fault(1), -1);
    }

    void due(int promise, String what, long got, long want) {
        asked++;
        if (got != want) {
            wrong++;
            System.out.println("promise " + promise + ", " + what + ": answered " + got + ", due is " + want);
        }
    }

    void thrown(int promise, String what, Class<? extends RuntimeException> want, Call call) {
        Class<?> got = null;
        try {
            call.run();
        } catch (RuntimeException e) {
            got = e.getClass();
        }
        asked++;
        if (got != want) {
            wrong++;
            System.out.println("promise " + promise + ", " + what + ": threw " + got + ", due is " + want);
        }
    }

    /** A call throws so, and whatever there is to tell is as it was. */
    void refused(int promise, String what, Class<? extends RuntimeException> want, Start start,
            Consumer<LeastWords> call) {
        LeastWords x = start.made.get();
        thrown(promise, what, want, () -> call.accept(x));
        unchanged(promise, what, start, call);
    }

    /** Whatever there is to tell is as it was ahead of a call, which may throw. */
    void unchanged(int promise, String what, Start start, Consumer<LeastWords> call) {
        List<String> due = start.traces();
        List<String> got = Traces.of(() -> {
            LeastWords x = start.made.get();
            try {
                call.accept(x);
            } catch (RuntimeException e) {
                // whether it must throw is asked elsewhere
            }
            return x;
        });
        asked++;
        for (int i = 0; i < due.size(); i++) {
            if (i >= got.size() || !due.get(i).equals(got.get(i))) {
                wrong++;
                System.out.println("promise " + promise + ", " + what + " changes something: " + due.get(i) + ", now "
                    + (i < got.size() ? got.get(i) : "nothing"));
                return;
            }
        }
    }

    void end() {
        System.out.println(asked + " answers asked for, " + wrong + " not as due");
        System.exit(wrong == 0 ? 0 : 1);
    }
}
