import java.nio.ByteBuffer;
import java.nio.charset.StandardCharsets;
import java.util.Arrays;

/** What tests need to feed texts and to say what is due. */
final class Hands {
    interface Call {
        void run();
    }

    private int wrong = 0;
    private int asked = 0;

    /** Feeds a text and makes it the hall. */
    static int open(LeastWords x, String text) {
        byte[] bytes = text.getBytes(StandardCharsets.ISO_8859_1);
        ByteBuffer all = ByteBuffer.wrap(Arrays.copyOf(bytes, (bytes.length + 19) / 20 * 20));
        while (all.hasRemaining()) {
            x.feed(all.getInt(), all.getInt(), all.getInt(), all.getInt(), all.getInt());
        }
        return x.hall(bytes.length);
    }

    static LeastWords opened(String text) {
        LeastWords x = new LeastWords();
        if (open(x, text) < 0) {
            throw new IllegalStateException("a fault in " + text + " at " + x.fault(1));
        }
        return x;
    }

    static void fill(LeastWords x, int tray, int sort, long... told) {
        x.tray(tray, sort, told.length);
        for (int i = 0; i < told.length; i++) {
            x.write(tray, i, told[i]);
        }
    }

    void due(int promise, String what, long got, long want) {
        asked++;
        if (got != want) {
            wrong++;
            System.out.println("promise " + promise + ", " + what + ": answered " + got + ", due is " + want);
        }
    }

    void thrown(int promise, String what, Class<? extends RuntimeException> want, Call call) {
        Class<?> got = null;
        try {
            call.run();
        } catch (RuntimeException e) {
            got = e.getClass();
        }
        asked++;
        if (got != want) {
            wrong++;
            System.out.println("promise " + promise + ", " + what + ": threw " + got + ", due is " + want);
        }
    }

    void end() {
        System.out.println(asked + " answers asked for, " + wrong + " not as due");
        System.exit(wrong == 0 ? 0 : 1);
    }
}
