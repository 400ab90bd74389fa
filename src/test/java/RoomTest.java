import com.sun.management.ThreadMXBean;
import java.lang.management.ManagementFactory;
import java.util.ArrayList;
import java.util.List;

/** All calls of one run live in one room: what an object and 512 of its calls make, at most, stays far below it. */
public final class RoomTest {
    private static final int CALLS = 512;
    /* 7.3 million elements would be some thirty million bytes; objects and arrays are counted by their headers. */
    private static final long MOST_BYTES = 1_000_000;

    private interface Call {
        void on(NapkinDeeds x, int i);
    }

    private static final ThreadMXBean BEAN = (ThreadMXBean) ManagementFactory.getThreadMXBean();
    private static final List<String> names = new ArrayList<>();
    private static final List<Call> calls = new ArrayList<>();

    private static void add(String name, Call call) {
        names.add(name);
        calls.add(call);
    }

    public static void main(String[] args) {
        add("napkin", (x, i) -> feedOrRead(x, i, "worth:1;likes:guest+w", "want*2;holds:1=1 and "));
        add("lines", (x, i) -> feedOrRead(x, i, "worth:1;worth:1;wort", "cell 1 back 1;guest "));
        add("fold", (x, i) -> x.fold(1, i % 4));
        add("deeds", (x, i) -> {
            x.evening(i, 30);
            x.image(i % 3);
            x.restore(i % 3);
        });
        add("told deeds", (x, i) -> {
            x.judge(0, i % 4);
            x.perform(0);
            x.copy(0);
        });
        add("on", (x, i) -> {
            x.soonest(0);
            x.best(5, 0);
            x.looks(5);
            x.fold(1 + i % 3, 0);
        });
        add("guests", (x, i) -> {
            x.fairest(5, 0);
            x.better(5);
            x.keenest(5);
            x.refuse();
            x.evening(i, 3);
        });
        add("creases", (x, i) -> {
            x.stacks();
            x.simple();
            x.patterns();
            x.made(1);
            x.look(2, 4);
        });
        add("tray", (x, i) -> {
            x.tray(3, 3, 30);
            x.write(3, i % 30, i);
        });
        int wrong = 0;
        for (int i = 0; i < calls.size(); i++) {
            bytes(calls.get(i));
            long bytes = bytes(calls.get(i));
            if (bytes > MOST_BYTES) {
                wrong++;
                System.out.println(names.get(i) + ": " + bytes + " bytes");
            }
        }
        System.out.println("RoomTest: " + calls.size() + " runs, " + wrong + " wrong");
        System.exit(wrong == 0 ? 0 : 1);
    }

    private static long bytes(Call call) {
        long before = BEAN.getThreadAllocatedBytes(Thread.currentThread().getId());
        NapkinDeeds x = new NapkinDeeds();
        String text = "cell 1 back 9;cell 2 back 8;cell 3 back 7;cell 4 back 6;cell 5 back 5;cell 6 back 4;"
            + "guest 1;guest 2;guest 3;guest 4;worth:top*2-under;holds:high=6 and wide=0;likes:want*top-guest;";
        for (int i = 0; i < text.length(); i += 20) {
            feed(x, text, i);
        }
        x.napkin(text.length());
        x.tray(0, 3, 30);
        x.tray(1, 3, 5);
        x.tray(2, 3, 1);
        x.write(2, 0, -1);
        for (int i = 0; i < CALLS; i++) {
            call.on(x, i);
        }
        return BEAN.getThreadAllocatedBytes(Thread.currentThread().getId()) - before;
    }

    private static void feedOrRead(NapkinDeeds x, int i, String first, String second) {
        if (i % 2 == 0) {
            feed(x, i % 4 == 0 ? first : second, 0);
        } else {
            x.napkin(20);
        }
    }

    private static void feed(NapkinDeeds x, String text, int from) {
        int[] a = new int[5];
        for (int k = 0; k < 20; k++) {
            a[k / 4] = a[k / 4] << 8 | (from + k < text.length() ? text.charAt(from + k) : ' ');
        }
        x.feed(a[0], a[1], a[2], a[3], a[4]);
    }
}
