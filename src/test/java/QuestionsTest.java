import java.util.NoSuchElementException;

/** Promises 17 to 30: the questions. */
public final class QuestionsTest {
    private static final Class<IndexOutOfBoundsException> NO_SUCH = IndexOutOfBoundsException.class;
    private static final Class<NoSuchElementException> NOT_THERE = NoSuchElementException.class;
    private static final Class<IllegalArgumentException> WRONG = IllegalArgumentException.class;
    private static final Check CHECK = new Check("QuestionsTest");

    private QuestionsTest() {
    }

    public static void main(String[] args) {
        parcel();
        slot();
        mortgage();
        rank();
        isAhead();
        proceeds();
        surePrice();
        heaviest();
        cover();
        coverBits();
        load();
        loadBits();
        loadBitsOfPowersOfTwo();
        claims();
        account();
        CHECK.end();
    }

    /**
     * Parcel 0, worth 500: 3:100/1 2:50/1 0:100/1 | 1:150/2 | 0:100/3; parcel 1, worth 300: 0:200/1 3:100/2; parcel 2
     * is gone; parcel 3, worth 7, is bare. Mortgage 4 is gone.
     */
    private static MortgageRegister example() {
        MortgageRegister x = new MortgageRegister();
        x.addParcel(500);
        x.addParcel(290);
        x.addParcel(10);
        x.addParcel(7);
        x.register(0, 200, 0b0111);
        x.register(1, 150, 0b0001);
        x.registerEqual(2, 50, 0b0001, 0);
        x.register(1, 100, 0b0111);
        x.register(5, 80, 0b0001);
        x.unite(1, 2);
        x.postpone(0, 0, 3);
        x.cancel(4);
        CHECK.due("the example's row 0", Dump.row(x, 0), "3:100/1 0:100/1 2:50/1 1:150/2 0:100/3");
        CHECK.due("the example's row 1", Dump.row(x, 1), "0:200/1 3:100/2");
        return x;
    }

    // Promise 17
    private static void parcel() {
        MortgageRegister x = example();
        int[] due = {500, 5, 3, 500, 0};
        for (int what = 0; what < 5; what++) {
            CHECK.due("17: parcel 0, " + what, x.parcel(0, what), due[what]);
        }
        int[] bare = {7, 0, 0, 0, 0};
        for (int what = 0; what < 5; what++) {
            CHECK.due("17: parcel 3, " + what, x.parcel(3, what), bare[what]);
        }
        x.auction(0, 77, 7);
        CHECK.due("17: the price", x.parcel(0, 4), 77);
        x.auction(0, 5, 5);
        CHECK.due("17: the latest price", x.parcel(0, 4), 5);
        x.undo();
        CHECK.due("17: the price that was undone", x.parcel(0, 4), 77);
        for (int p : new int[] {-1, 2, 4, 8, Integer.MAX_VALUE, Integer.MIN_VALUE}) {
            CHECK.thrown("17: parcel " + p, NO_SUCH, x, () -> x.parcel(p, 0));
        }
        CHECK.thrown("17: -1", WRONG, x, () -> x.parcel(0, -1));
        CHECK.thrown("17: 5", WRONG, x, () -> x.parcel(0, 5));
        CHECK.thrown("17: first the parcel", NO_SUCH, x, () -> x.parcel(4, 5));
    }

    // Promise 18
    private static void slot() {
        MortgageRegister x = example();
        CHECK.due("18: mortgage", x.slot(0, 3, 0), 1);
        CHECK.due("18: amount", x.slot(0, 3, 1), 150);
        CHECK.due("18: rank", x.slot(0, 3, 2), 2);
        CHECK.due("18: the last one", x.slot(0, 4, 2), 3);
        CHECK.thrown("18: a gone parcel", NO_SUCH, x, () -> x.slot(2, 0, 0));
        CHECK.thrown("18: parcel -1", NO_SUCH, x, () -> x.slot(-1, 0, 0));
        CHECK.thrown("18: index 5", NOT_THERE, x, () -> x.slot(0, 5, 0));
        CHECK.thrown("18: index -1", NOT_THERE, x, () -> x.slot(0, -1, 0));
        CHECK.thrown("18: index of a bare parcel", NOT_THERE, x, () -> x.slot(3, 0, 0));
        CHECK.thrown("18: a great index", NOT_THERE, x, () -> x.slot(0, Integer.MAX_VALUE, 0));
        CHECK.thrown("18: 3", WRONG, x, () -> x.slot(0, 0, 3));
        CHECK.thrown("18: -1", WRONG, x, () -> x.slot(0, 0, -1));
        CHECK.thrown("18: first the parcel", NO_SUCH, x, () -> x.slot(4, 9, 9));
        CHECK.thrown("18: then the slot", NOT_THERE, x, () -> x.slot(0, 9, 9));
    }

    // Promise 19
    private static void mortgage() {
        MortgageRegister x = example();
        int[] due = {0, 200, 0b0011, 0, 3};
        for (int what = 0; what < 5; what++) {
            CHECK.due("19: mortgage 0, " + what, x.mortgage(0, what), due[what]);
        }
        int[] gone = {5, 0, 0, 0, 0};
        for (int what = 0; what < 5; what++) {
            CHECK.due("19: a gone one, " + what, x.mortgage(4, what), gone[what]);
        }
        x.pay(3, 5);
        x.auction(0, 20, 0);
        CHECK.due("19: paid, by auctions too", x.mortgage(3, 3), 5 + 8);
        CHECK.thrown("19: 5", NO_SUCH, x, () -> x.mortgage(5, 0));
        CHECK.thrown("19: -1", NO_SUCH, x, () -> x.mortgage(-1, 0));
        CHECK.thrown("19: what -1", WRONG, x, () -> x.mortgage(4, -1));
        CHECK.thrown("19: what 5", WRONG, x, () -> x.mortgage(0, 5));
        CHECK.thrown("19: first the mortgage", NO_SUCH, x, () -> x.mortgage(12, 5));
    }

    // Promise 20
    private static void rank() {
        MortgageRegister x = example();
        CHECK.due("20: the first", x.rank(0, 0, false), 1);
        CHECK.due("20: the last", x.rank(0, 0, true), 3);
        CHECK.due("20: of one slot", x.rank(0, 1, true), 2);
        CHECK.thrown("20: a gone parcel", NO_SUCH, x, () -> x.rank(2, 0, true));
        CHECK.thrown("20: no parcel", NO_SUCH, x, () -> x.rank(4, 0, true));
        CHECK.thrown("20: no mortgage", NO_SUCH, x, () -> x.rank(0, 5, false));
        CHECK.thrown("20: mortgage -1", NO_SUCH, x, () -> x.rank(0, -1, false));
        CHECK.thrown("20: a gone mortgage", NOT_THERE, x, () -> x.rank(0, 4, false));
        CHECK.thrown("20: not on it", NOT_THERE, x, () -> x.rank(1, 1, true));
        CHECK.thrown("20: a bare parcel", NOT_THERE, x, () -> x.rank(3, 0, false));
        CHECK.thrown("20: parcel -1", NO_SUCH, x, () -> x.rank(-1, 0, false));
        CHECK.thrown("20: mortgage 12", NO_SUCH, x, () -> x.rank(0, 12, true));
    }

    // Promise 21
    private static void isAhead() {
        MortgageRegister x = example();
        CHECK.isTrue("21: ahead", x.isAhead(0, 3, 1));
        CHECK.isFalse("21: behind", x.isAhead(0, 1, 3));
        CHECK.isFalse("21: equal", x.isAhead(0, 3, 2));
        CHECK.isFalse("21: around it", x.isAhead(0, 0, 1));
        CHECK.isFalse("21: within it", x.isAhead(0, 1, 0));
        CHECK.isFalse("21: itself", x.isAhead(0, 1, 1));
        CHECK.isTrue("21: elsewhere", x.isAhead(1, 0, 3));
        CHECK.thrown("21: a gone parcel", NO_SUCH, x, () -> x.isAhead(2, 0, 1));
        CHECK.thrown("21: no such one", NO_SUCH, x, () -> x.isAhead(0, 5, 1));
        CHECK.thrown("21: no such other", NO_SUCH, x, () -> x.isAhead(0, 4, 5));
        CHECK.thrown("21: the one is not on it", NOT_THERE, x, () -> x.isAhead(1, 1, 0));
        CHECK.thrown("21: the other is not on it", NOT_THERE, x, () -> x.isAhead(1, 0, 2));
        CHECK.thrown("21: a gone one", NOT_THERE, x, () -> x.isAhead(0, 0, 4));
        CHECK.thrown("21: a gone one first", NOT_THERE, x, () -> x.isAhead(0, 4, 0));
        CHECK.thrown("21: first none such, then not on it", NO_SUCH, x, () -> x.isAhead(1, 1, 5));
        CHECK.thrown("21: no such one, and the other not on it", NO_SUCH, x, () -> x.isAhead(1, -1, 1));
        CHECK.thrown("21: no such parcel", NO_SUCH, x, () -> x.isAhead(4, 4, 4));
    }

    // Promise 22
    private static void proceeds() {
        MortgageRegister x = example();
        String before = Dump.of(x);
        // 133 of 250 for rank 1: 53.2, 53.2 and 26.6 are 132, and the first one gets one more.
        CHECK.due("22: the first", x.proceeds(0, 143, 10, 3), 54);
        CHECK.due("22: the second", x.proceeds(0, 143, 10, 0), 53);
        CHECK.due("22: the third", x.proceeds(0, 143, 10, 2), 26);
        CHECK.due("22: of the next rank", x.proceeds(0, 143, 10, 1), 0);
        CHECK.due("22: by several slots", x.proceeds(0, 450, 0, 0), 150);
        CHECK.due("22: all costs", x.proceeds(0, 9999, 9999, 3), 0);
        CHECK.due("22: enough for all", x.proceeds(0, 9999, 0, 0), 200);
        CHECK.due("22: the least price", x.proceeds(0, 1, 0, 3), 1);
        CHECK.due("22: not on it", x.proceeds(1, 9999, 0, 1), 0);
        CHECK.due("22: a gone one", x.proceeds(0, 9999, 0, 4), 0);
        CHECK.due("22: a bare parcel", x.proceeds(3, 9999, 0, 0), 0);
        CHECK.due("22: nothing changes", Dump.of(x), before);
        CHECK.thrown("22: a gone parcel", NO_SUCH, x, () -> x.proceeds(2, 1, 0, 0));
        CHECK.thrown("22: no such mortgage", NO_SUCH, x, () -> x.proceeds(0, 0, 0, 5));
        CHECK.thrown("22: mortgage 12", NO_SUCH, x, () -> x.proceeds(0, 1, 0, 12));
        CHECK.thrown("22: price 0", WRONG, x, () -> x.proceeds(0, 0, 0, 0));
        CHECK.thrown("22: price 10000", WRONG, x, () -> x.proceeds(0, 10000, 0, 0));
        CHECK.thrown("22: costs -1", WRONG, x, () -> x.proceeds(0, 10, -1, 0));
        CHECK.thrown("22: costs above the price", WRONG, x, () -> x.proceeds(0, 10, 11, 1));
        CHECK.thrown("22: first no parcel, then the price", NO_SUCH, x, () -> x.proceeds(4, 0, -1, 0));
        CHECK.thrown("22: first no mortgage, then the costs", NO_SUCH, x, () -> x.proceeds(0, 10, 11, -1));
        CHECK.thrown("22: great costs", WRONG, x, () -> x.proceeds(0, 9999, Integer.MAX_VALUE, 0));
        CHECK.thrown("22: a great price", WRONG, x, () -> x.proceeds(0, Integer.MAX_VALUE, 0, 0));
        CHECK.thrown("22: a price and costs far below 0", WRONG, x, () -> x.proceeds(0, Integer.MIN_VALUE, 1, 0));
        CHECK.thrown("22: costs wrong for one that is not on it", WRONG, x, () -> x.proceeds(1, 10, 11, 1));
    }

    // Promise 23
    private static void surePrice() {
        MortgageRegister x = example();
        CHECK.due("23: all of its rank", x.surePrice(0, 0, 3), 250);
        CHECK.due("23: with costs", x.surePrice(0, 10, 1), 410);
        CHECK.due("23: up to the last slot", x.surePrice(0, 10, 0), 510);
        CHECK.due("23: above 9999", x.surePrice(0, 9999, 2), 10249);
        CHECK.thrown("23: a gone parcel", NO_SUCH, x, () -> x.surePrice(2, 0, 0));
        CHECK.thrown("23: no such mortgage", NO_SUCH, x, () -> x.surePrice(0, -1, 5));
        CHECK.thrown("23: costs -1", WRONG, x, () -> x.surePrice(0, -1, 0));
        CHECK.thrown("23: costs 10000", WRONG, x, () -> x.surePrice(1, 10000, 1));
        CHECK.thrown("23: first none such, then the costs", NO_SUCH, x, () -> x.surePrice(0, 10000, 5));
        CHECK.thrown("23: first no parcel, then the costs", NO_SUCH, x, () -> x.surePrice(2, -1, 0));
        CHECK.thrown("23: first the costs, then a gone one", WRONG, x, () -> x.surePrice(0, 10000, 4));
        CHECK.due("23: the greatest costs", x.surePrice(0, 9999, 0), 10499);
        CHECK.thrown("23: not on it", NOT_THERE, x, () -> x.surePrice(1, 0, 1));
        CHECK.thrown("23: a gone one", NOT_THERE, x, () -> x.surePrice(0, 0, 4));
    }

    // Promise 24
    private static void heaviest() {
        MortgageRegister x = example();
        CHECK.due("24: 500/500 against 200/300", x.heaviest(0), 0);
        CHECK.due("24: 250/500 against 300/300", x.heaviest(3), 1);
        CHECK.due("24: on one parcel", x.heaviest(1), 0);
        CHECK.thrown("24: no such mortgage", NO_SUCH, x, () -> x.heaviest(5));
        CHECK.thrown("24: -1", NO_SUCH, x, () -> x.heaviest(-1));
        CHECK.thrown("24: a gone one", NOT_THERE, x, () -> x.heaviest(4));
        MortgageRegister y = new MortgageRegister();
        y.addParcel(30);
        y.addParcel(10);
        y.addParcel(10);
        y.register(0, 5, 0b110);
        CHECK.due("24: of several the lowest", y.heaviest(0), 1);
        y.register(0, 7, 0b111);
        CHECK.due("24: not the lowest of all", y.heaviest(1), 1);
    }

    // Promise 25
    private static void cover() {
        MortgageRegister x = example();
        floats("25: the rank's slots", x.cover(0, 3), 250f / 500f);
        floats("25: up to the last slot", x.cover(0, 0), 500f / 500f);
        floats("25: two ranks", x.cover(0, 1), 400f / 500f);
        floats("25: not even", x.cover(1, 0), 200f / 300f);
        CHECK.thrown("25: a gone parcel", NO_SUCH, x, () -> x.cover(2, 0));
        CHECK.thrown("25: no such mortgage", NO_SUCH, x, () -> x.cover(0, 5));
        CHECK.thrown("25: not on it", NOT_THERE, x, () -> x.cover(1, 1));
        CHECK.thrown("25: a gone one", NOT_THERE, x, () -> x.cover(0, 4));
        CHECK.thrown("25: a bare parcel", NOT_THERE, x, () -> x.cover(3, 0));
        CHECK.thrown("25: mortgage -1", NO_SUCH, x, () -> x.cover(0, -1));
        CHECK.thrown("25: parcel -1", NO_SUCH, x, () -> x.cover(-1, 0));
    }

    private static void floats(String what, float got, float want) {
        CHECK.due(what, Float.floatToIntBits(got), Float.floatToIntBits(want));
    }

    // Promise 26
    private static void coverBits() {
        MortgageRegister x = example();
        CHECK.due("26: one half", x.coverBits(0, 3), 0x3f000000);
        CHECK.due("26: one", x.coverBits(0, 0), 0x3f800000);
        CHECK.due("26: two thirds", x.coverBits(1, 0), 0x3f2aaaab);
        int[][] pairs = {{1, 9999}, {9999, 1}, {1, 3}, {9998, 9999}, {9999, 9998}, {2, 1}, {1, 2}, {4096, 1}, {7, 8192},
            {1023, 1024}, {5555, 7}, {1, 1}};
        for (int[] pair : pairs) {
            MortgageRegister y = new MortgageRegister();
            y.addParcel(pair[1]);
            y.register(0, pair[0], 1);
            float due = (float) pair[0] / (float) pair[1];
            floats("25: " + pair[0] + " by " + pair[1], y.cover(0, 0), due);
            CHECK.due("26: " + pair[0] + " by " + pair[1], y.coverBits(0, 0), Float.floatToIntBits(due));
        }
        MortgageRegister z = new MortgageRegister();
        z.addParcel(1);
        for (int m = 0; m < 12; m++) {
            z.register(0, 9999, 1);
            CHECK.due("26: " + m, z.coverBits(0, m), Float.floatToIntBits(9999f * (m + 1)));
        }
        CHECK.thrown("26: a gone parcel", NO_SUCH, x, () -> x.coverBits(2, 0));
        CHECK.thrown("26: no such mortgage", NO_SUCH, x, () -> x.coverBits(0, 5));
        CHECK.thrown("26: not on it", NOT_THERE, x, () -> x.coverBits(1, 1));
        CHECK.thrown("26: a gone one", NOT_THERE, x, () -> x.coverBits(0, 4));
        CHECK.thrown("26: mortgage -1", NO_SUCH, x, () -> x.coverBits(0, -1));
        CHECK.thrown("26: parcel 8", NO_SUCH, x, () -> x.coverBits(8, 0));
    }

    // Promise 27
    private static void load() {
        MortgageRegister x = example();
        CHECK.due("27: all debts by all worths", Double.doubleToLongBits(x.load()), Double.doubleToLongBits(500.0 / 807.0));
        CHECK.thrown("27: no parcels", ArithmeticException.class, () -> new MortgageRegister().load());
        MortgageRegister y = new MortgageRegister();
        y.addParcel(3);
        CHECK.due("27: no debts", Double.doubleToLongBits(y.load()), 0);
        y.undo();
        CHECK.thrown("27: undone", ArithmeticException.class, y, y::load);
    }

    // Promise 28
    private static void loadBits() {
        MortgageRegister x = example();
        CHECK.due("28: all debts by all worths", x.loadBits(), Double.doubleToLongBits(500.0 / 807.0));
        CHECK.thrown("28: no parcels", ArithmeticException.class, () -> new MortgageRegister().loadBits());
        for (int worth = 1; worth < 9999; worth += 311) {
            MortgageRegister y = new MortgageRegister();
            y.addParcel(worth);
            CHECK.due("28: no debts", y.loadBits(), 0);
            for (int m = 0; m < 12; m++) {
                y.register(0, m == 0 ? 1 : 833 * m, 1);
                double due = (double) y.account(1) / (double) worth;
                CHECK.due("28: " + worth + ", " + m, y.loadBits(), Double.doubleToLongBits(due));
            }
        }
    }

    private static void loadBitsOfPowersOfTwo() {
        int[][] pairs = {{1, 1}, {9999, 9999}, {2, 1}, {4, 2}, {4, 1}, {8192, 1}, {1, 2}, {3, 6}, {1, 4}, {1, 8192},
            {9999, 1}, {1, 9999}, {9998, 9999}, {3, 2}};
        for (int[] pair : pairs) {
            MortgageRegister x = new MortgageRegister();
            x.addParcel(pair[1]);
            x.register(0, pair[0], 1);
            double due = (double) pair[0] / (double) pair[1];
            CHECK.due("28: " + pair[0] + " by " + pair[1], x.loadBits(), Double.doubleToLongBits(due));
            long bits = Double.doubleToLongBits(x.load());
            CHECK.due("27: " + pair[0] + " by " + pair[1], bits, Double.doubleToLongBits(due));
            CHECK.due("26: " + pair[0] + " by " + pair[1], x.coverBits(0, 0), Float.floatToIntBits((float) due));
        }
        MortgageRegister y = new MortgageRegister();
        for (int p = 0; p < 8; p++) {
            y.addParcel(9999);
        }
        for (int m = 0; m < 12; m++) {
            y.register(0, 9999, 1);
        }
        CHECK.due("28: the greatest sums", y.loadBits(), Double.doubleToLongBits(119988.0 / 79992.0));
        CHECK.due("17: the greatest sum of amounts", y.parcel(0, 3), 119988);
        CHECK.due("23: the greatest price", y.surePrice(0, 9999, 11), 129987);
        MortgageRegister z = new MortgageRegister();
        z.save();
        z.addParcel(1);
        z.restore();
        CHECK.thrown("28: no parcels any more", ArithmeticException.class, z, z::loadBits);
        CHECK.thrown("27: no parcels any more", ArithmeticException.class, z, z::load);
    }

    // Promise 29
    private static void claims() {
        MortgageRegister x = example();
        CHECK.due("29: on all parcels", x.claims(0, 1), 100 + 200);
        CHECK.due("29: several mortgages", x.claims(1, 2), 150 + 100);
        CHECK.due("29: rank 1", x.claims(1, 1), 100);
        CHECK.due("29: rank 3", x.claims(0, 3), 100);
        CHECK.due("29: a creditor of a gone one", x.claims(5, 1), 0);
        CHECK.due("29: a creditor of none", x.claims(4, 1), 0);
        for (int rank : new int[] {0, -1, 4, 99, Integer.MAX_VALUE, Integer.MIN_VALUE}) {
            CHECK.due("29: rank " + rank, x.claims(0, rank), 0);
        }
        CHECK.thrown("29: creditor 6", WRONG, x, () -> x.claims(6, 1));
        CHECK.thrown("29: creditor -1", WRONG, x, () -> x.claims(-1, 1));
    }

    // Promise 30
    private static void account() {
        MortgageRegister x = example();
        x.pay(0, 20);
        x.auction(0, 143, 10);
        // 133 of 250 for rank 1: 53.2, 53.2 and 26.6 are 132, and the first one gets one more.
        long[] due = {580, (100 - 54) + (180 - 53), 20, 133, 80, 150 + (50 - 26), 143, 10, 0};
        for (int what = 0; what < 9; what++) {
            CHECK.due("30: account " + what, x.account(what), due[what]);
        }
        CHECK.due("30: 1 to 5 are 0", due[1] + due[2] + due[3] + due[4] + due[5], due[0]);
        CHECK.thrown("30: 9", WRONG, x, () -> x.account(9));
        CHECK.thrown("30: -1", WRONG, x, () -> x.account(-1));
    }
}
