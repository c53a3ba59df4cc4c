import com.sun.management.ThreadMXBean;
import java.lang.management.ManagementFactory;

/** All calls of a run live in one room: objects are small, and calls make next to nothing. */
public final class RoomTests {
    private static final ThreadMXBean THREADS = (ThreadMXBean) ManagementFactory.getThreadMXBean();
    private static int wrong = 0;

    private interface Call {
        int run(LeastWords x, int i);
    }

    public static void main(String[] args) {
        StringBuilder text = new StringBuilder("marks 6;");
        for (int c = 0; c < 14; c++) {
            text.append(c < 9 ? "chest" : "spare").append(" 1 2 3 4 5 6;".replace('3', (char) ('0' + c % 10)));
        }
        for (int w = 0; w < 10; w++) {
            text.append("word cost ").append(1 + w % 9).append(":m 2=").append(w).append(" or sum*alike>99;");
        }
        LeastWords x = Hands.opened(text.toString());
        x.tray(0, 1, 30);
        x.image(0);
        Call[] free = {
            (y, i) -> y.least(i % 9), (y, i) -> y.sure(i % 9), (y, i) -> y.blind(i % 9), (y, i) -> y.hardest(),
            (y, i) -> y.ways(i % 9), (y, i) -> y.rank(1), (y, i) -> y.shorter(1), (y, i) -> y.hardened(i % 9, 99),
            (y, i) -> y.book(), (y, i) -> y.asking(i % 2), (y, i) -> y.fresh(i % 9, 0), (y, i) -> y.greedy(i % 9),
            (y, i) -> y.judge(0, i % 4), (y, i) -> y.perform(0), (y, i) -> y.night(i, 30) + y.undo(10),
            (y, i) -> y.twins(), (y, i) -> y.changing(), (y, i) -> y.lamp(), (y, i) -> y.claim(0, 0) + y.settle(),
            (y, i) -> { y.image(0); y.restore(0); y.tray(1, 3, 30); return 0; }
        };
        for (int k = 0; k < free.length; k++) {
            Call call = free[k];
            x.restore(0);
            bytes("call " + k, 4096, () -> {
                for (int i = 0; i < 50; i++) {
                    call.run(x, i);
                    x.restore(0);
                }
            });
        }
        bytes("a new object", 60000, LeastWords::new);
        bytes("an image", 8000, () -> x.image(1));
        bytes("a hall", 8000 + text.length() * 6, () -> Hands.open(x, text.toString()));
        System.out.println(wrong == 0 ? "the room is as due" : wrong + " take too much room");
        System.exit(wrong == 0 ? 0 : 1);
    }

    private static void bytes(String what, long most, Runnable run) {
        long before = THREADS.getThreadAllocatedBytes(Thread.currentThread().getId());
        run.run();
        long made = THREADS.getThreadAllocatedBytes(Thread.currentThread().getId()) - before;
        if (Boolean.getBoolean("tally")) {
            System.out.println(what + ": " + made);
        }
        if (made > most) {
            wrong++;
            System.out.println(what + " made " + made + " bytes, more than " + most);
        }
    }
}
