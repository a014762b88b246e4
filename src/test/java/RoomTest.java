import com.sun.management.ThreadMXBean;
import java.lang.management.ManagementFactory;

/**
 * What the calls of one run leave in the room of 600,000 objects and 7,300,000 fields and elements: here
 * bytes are weighed, at least one for each sign of a text, four for each other element, sixteen for each object; the weighing itself leaves eight a call.
 */
public final class RoomTest {
    private interface Call {
        void on(Pensionledger x);
    }

    private static int wrong;

    private static long bytes() {
        return ((ThreadMXBean) ManagementFactory.getThreadMXBean()).getThreadAllocatedBytes(Thread.currentThread().getId());
    }

    private static void weigh(String name, Pensionledger x, int most, Call call) {
        call.on(x);
        long before = bytes();
        for (int i = 0; i < 100; i++) {
            call.on(x);
        }
        long each = (bytes() - before) / 100;
        System.out.println(name + ": " + each + " bytes a call");
        if (each > most) {
            wrong++;
            System.out.println("more than " + most);
        }
    }

    private static Pensionledger full() {
        Pensionledger x = new Pensionledger();
        for (int m = 0; m < 4; m++) {
            x.member(m * 60);
            for (int n = 0; n < 10; n++) {
                x.spell(m, n % 3, 500 + n * 300, 1400 + n * 300, 30 + n * 7, 0);
            }
            for (int k = 0; k < 24; k++) {
                x.wage(m, k % 3, k * 33 + 7, 1000 + k * 333);
            }
        }
        for (int k = 0; k < 12; k++) {
            x.price(k * 7 + 3, 9998 - 27 * k * k);
        }
        for (int h = 0; h < 3; h++) {
            x.form(h, 1, 3, 99999);
            x.raise(h, -3, 7);
            x.rule(h, 1000, 41, 20, 7);
        }
        x.marry(0, 1, 700);
        x.divide(0, 1900, 33);
        x.marry(0, 2, 2000);
        x.go(0, 0, 700, 0);
        return x;
    }

    public static void main(String[] none) {
        Pensionledger x = full();
        weigh("a new object", x, 100000, y -> new Pensionledger());
        weigh("isSound", x, 16, y -> y.isSound());
        weigh("digest", x, 16, y -> y.digest());
        weigh("best", x, 16, y -> y.best(0, 0, 700, 736, 1100));
        weigh("due", x, 16, y -> y.due(0, 820));
        weigh("wouldEarn", x, 2000, y -> y.wouldEarn(0, 0, 100, 5000, 50));
        weigh("kept", x, 2000, y -> y.kept(0, 0, 1100, 1100));
        weigh("lump", x, 2000, y -> y.lump(0, 0, 1100, 33));
        weigh("level", x, 2000, y -> y.level(0, 3, 23));
        weigh("price and undo", x, 16, y -> {
            y.price(3, 77);
            y.undo();
        });
        if (wrong != 0) {
            System.exit(1);
        }
    }
}
