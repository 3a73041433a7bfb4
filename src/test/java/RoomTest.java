import com.sun.management.ThreadMXBean;
import java.lang.management.ManagementFactory;

/** What 512 calls of an object make must be little: nearly all is made by the constructor. */
public final class RoomTest {
    private static final Check CHECK = new Check("RoomTest");
    private static final ThreadMXBean BEAN = (ThreadMXBean) ManagementFactory.getThreadMXBean();

    private RoomTest() {
    }

    public static void main(String[] args) {
        // The first rounds load classes, which counts too.
        for (int i = 0; i < 3; i++) {
            changesAndQuestions();
            texts();
        }
        long start = made();
        MortgageRegister x = new MortgageRegister();
        long ofConstructor = made() - start;
        CHECK.due("12: a new object is empty", x.count(3), 0);
        limit("the constructor", ofConstructor, 60_000);
        start = made();
        changesAndQuestions();
        limit("changes and questions", made() - start - ofConstructor, 1_000);
        start = made();
        texts();
        limit("texts", made() - start - ofConstructor, 1_000);
        start = made();
        manySlots();
        limit("many slots", made() - start - ofConstructor, 400_000);
        CHECK.end();
    }

    private static long made() {
        return BEAN.getThreadAllocatedBytes(Thread.currentThread().getId());
    }

    private static void limit(String what, long bytes, long most) {
        CHECK.due("bytes for " + what + " above " + most, Math.max(0, bytes - most), 0);
    }

    private static void changesAndQuestions() {
        MortgageRegister x = new MortgageRegister();
        x.addParcel(500);
        x.addParcel(300);
        for (int m = 0; m < 12; m++) {
            x.register(0, 100 + m, 3);
        }
        for (int i = 0; i < 30; i++) {
            x.postpone(0, 0, 11);
            x.postpone(0, 11, 0);
            x.pay(5, 1);
            x.split(0, 5);
            x.save();
            x.undo();
            x.auction(0, 900, 3);
            x.undo();
            x.join(0, 1);
            x.undo();
            x.proceeds(0, 900, 3, 4);
            x.coverBits(0, 7);
            x.loadBits();
            x.claims(0, 3);
            x.account(1);
            x.heaviest(3);
        }
    }

    private static void texts() {
        MortgageRegister x = new MortgageRegister();
        x.addParcel(500);
        x.register(0, 300, 1);
        for (int i = 0; i < 25; i++) {
            for (int k = 0; k < 10; k++) {
                x.append('y' << 24 | '0' << 16 | ':' << 8 | '1');
                x.append(';');
            }
            x.run();
        }
    }

    private static void manySlots() {
        MortgageRegister x = new MortgageRegister();
        x.addParcel(9999);
        for (int m = 0; m < 12; m++) {
            if (m < 5) {
                x.register(0, 5000 + 397 * m, 1);
            } else {
                x.registerEqual(0, 5000 + 397 * m, 1, m % 5);
            }
        }
        for (int i = 0; i < 480; i++) {
            try {
                x.postpone(0, i * 7 % 12, (i * 5 + i / 12) % 12);
            } catch (UnsupportedOperationException e) {
                continue;
            }
        }
        for (int i = 1; i < 8; i++) {
            x.split(0, 1);
        }
    }
}
