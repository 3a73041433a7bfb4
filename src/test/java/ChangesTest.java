/** Promises 1 to 12: a new object, and the changes of the register. */
public final class ChangesTest {
    private static final Check CHECK = new Check("ChangesTest");

    private ChangesTest() {
    }

    public static void main(String[] args) {
        newObject();
        addParcel();
        register();
        registerEqual();
        registerEqualGoesByFirstSlot();
        postpone();
        postponeInEqualRank();
        postponeRefused();
        release();
        cancel();
        pay();
        payMakesNeighboursOne();
        split();
        unite();
        join();
        joinRefused();
        auction();
        auctionSharesARank();
        auctionPaysOnOtherParcels();
        auctionRefused();
        accountsAddUp();
        CHECK.end();
    }

    static MortgageRegister withParcels(int... worths) {
        MortgageRegister x = new MortgageRegister();
        for (int worth : worths) {
            x.addParcel(worth);
        }
        return x;
    }

    private static void row(String what, MortgageRegister x, int parcel, String want) {
        CHECK.due(what, Dump.row(x, parcel), want);
    }

    // Promise 1
    private static void newObject() {
        MortgageRegister x = new MortgageRegister();
        for (int what = 0; what < 7; what++) {
            CHECK.due("1: count " + what, x.count(what), 0);
        }
        for (int what = 0; what < 9; what++) {
            CHECK.due("1: account " + what, x.account(what), 0);
        }
        CHECK.due("1: faultPosition", x.faultPosition(), -1);
        CHECK.thrown("1: refusal", java.util.NoSuchElementException.class, x::refusal);
        CHECK.thrown("1: parcel 0", IndexOutOfBoundsException.class, () -> x.parcel(0, 0));
        CHECK.thrown("1: mortgage 0", IndexOutOfBoundsException.class, () -> x.mortgage(0, 0));
        x.addParcel(5);
        CHECK.due("1: another object", new MortgageRegister().count(0), 0);
    }

    // Promise 2
    private static void addParcel() {
        MortgageRegister x = new MortgageRegister();
        CHECK.due("2: the least worth", x.addParcel(1), 0);
        CHECK.due("2: the greatest worth", x.addParcel(9999), 1);
        CHECK.due("2: its worth", x.parcel(1, 0), 9999);
        CHECK.due("2: its slots", x.parcel(1, 1), 0);
        CHECK.refused("2: 0", 2, x, () -> x.addParcel(0));
        CHECK.refused("2: 10000", 2, x, () -> x.addParcel(10000));
        CHECK.refused("2: less than 0", 2, x, () -> x.addParcel(Integer.MIN_VALUE));
        for (int p = 2; p < 8; p++) {
            CHECK.due("2: parcel " + p, x.addParcel(10 + p), p);
        }
        CHECK.refused("2: a ninth parcel", 4, x, () -> x.addParcel(1));
        CHECK.refused("2: first out of range, then full", 2, x, () -> x.addParcel(10000));
        x.unite(2, 3);
        CHECK.refused("2: a gone parcel is kept", 4, x, () -> x.addParcel(1));
    }

    // Promise 3
    private static void register() {
        MortgageRegister x = withParcels(100, 200, 300);
        CHECK.due("3: the first", x.register(0, 1, 0b101), 0);
        CHECK.due("3: the second", x.register(5, 9999, 0b111), 1);
        row("3: row 0", x, 0, "0:1/1 1:9999/2");
        row("3: row 1", x, 1, "1:9999/1");
        row("3: row 2", x, 2, "0:1/1 1:9999/2");
        CHECK.due("3: creditor", x.mortgage(1, 0), 5);
        CHECK.due("3: debt", x.mortgage(1, 1), 9999);
        CHECK.due("3: set", x.mortgage(0, 2), 0b101);
        CHECK.refused("3: a parcel that there is not", 1, x, () -> x.register(0, 1, 0b1000));
        CHECK.refused("3: bit 8", 1, x, () -> x.register(0, 1, 0b100000001));
        CHECK.refused("3: all bits", 1, x, () -> x.register(0, 1, -1));
        CHECK.refused("3: the highest bit", 1, x, () -> x.register(0, 1, Integer.MIN_VALUE));
        CHECK.refused("3: first no parcel, then creditor", 1, x, () -> x.register(6, 0, 8));
        CHECK.refused("3: no parcels told", 2, x, () -> x.register(0, 1, 0));
        CHECK.refused("3: creditor 6", 2, x, () -> x.register(6, 1, 1));
        CHECK.refused("3: creditor -1", 2, x, () -> x.register(-1, 1, 1));
        CHECK.refused("3: amount 0", 2, x, () -> x.register(0, 0, 1));
        CHECK.refused("3: amount 10000", 2, x, () -> x.register(0, 10000, 1));
        for (int m = 2; m < 12; m++) {
            CHECK.due("3: mortgage " + m, x.register(m % 6, m, 1), m);
        }
        CHECK.refused("3: a thirteenth", 4, x, () -> x.register(0, 1, 1));
        CHECK.refused("3: first out of range, then full", 2, x, () -> x.register(0, 1, 0));
        x.cancel(4);
        CHECK.refused("3: a gone mortgage is kept", 4, x, () -> x.register(0, 1, 1));
        MortgageRegister y = withParcels(10, 10);
        y.unite(1, 0);
        CHECK.refused("3: a gone parcel", 1, y, () -> y.register(0, 1, 0b11));
        CHECK.refused("3: a gone parcel alone", 1, y, () -> y.register(0, 1, 0b01));
        MortgageRegister z = new MortgageRegister();
        CHECK.refused("3: without parcels", 1, z, () -> z.register(0, 1, 1));
        CHECK.refused("3: without parcels, none told", 2, z, () -> z.register(0, 1, 0));
    }

    // Promise 4
    private static void registerEqual() {
        MortgageRegister x = withParcels(100, 200);
        x.register(0, 10, 0b11);
        x.register(1, 20, 0b01);
        CHECK.due("4: the number", x.registerEqual(2, 30, 0b11, 0), 2);
        row("4: row 0", x, 0, "0:10/1 2:30/1 1:20/2");
        row("4: row 1", x, 1, "0:10/1 2:30/1");
        x.registerEqual(3, 40, 0b01, 0);
        row("4: behind all slots of the rank", x, 0, "0:10/1 2:30/1 3:40/1 1:20/2");
        x.registerEqual(4, 50, 0b01, 1);
        row("4: in the last rank", x, 0, "0:10/1 2:30/1 3:40/1 1:20/2 4:50/2");
        CHECK.due("4: all that was registered", x.account(0), 150);
        CHECK.refused("4: no such other", 1, x, () -> x.registerEqual(0, 1, 1, 5));
        CHECK.refused("4: other -1", 1, x, () -> x.registerEqual(0, 1, 1, -1));
        CHECK.refused("4: no such parcel", 1, x, () -> x.registerEqual(9, 0, 4, 0));
        CHECK.refused("4: no parcels told", 2, x, () -> x.registerEqual(0, 1, 0, 0));
        CHECK.refused("4: creditor", 2, x, () -> x.registerEqual(6, 1, 1, 0));
        CHECK.refused("4: amount", 2, x, () -> x.registerEqual(0, 10000, 1, 0));
        CHECK.refused("4: first out of range, then not on it", 2, x, () -> x.registerEqual(0, 0, 2, 1));
        CHECK.refused("4: not on all of them", 3, x, () -> x.registerEqual(0, 1, 3, 1));
        x.cancel(1);
        CHECK.refused("4: the other is gone", 1, x, () -> x.registerEqual(0, 1, 1, 1));
        for (int m = 5; m < 12; m++) {
            x.registerEqual(0, 1, 1, 0);
        }
        CHECK.refused("4: a thirteenth", 4, x, () -> x.registerEqual(0, 1, 1, 0));
        CHECK.refused("4: first not on it, then full", 3, x, () -> x.registerEqual(0, 1, 2, 3));
    }

    private static void registerEqualGoesByFirstSlot() {
        MortgageRegister x = withParcels(500);
        x.register(0, 100, 1);
        x.register(1, 150, 1);
        x.register(2, 100, 1);
        x.postpone(0, 0, 1);
        row("4: two slots", x, 0, "1:100/1 1:50/2 0:100/2 2:100/3");
        x.registerEqual(3, 5, 1, 1);
        row("4: the rank of the first slot", x, 0, "1:100/1 3:5/1 1:50/2 0:100/2 2:100/3");
        x.registerEqual(4, 6, 1, 0);
        row("4: behind others of the rank", x, 0, "1:100/1 3:5/1 1:50/2 0:100/2 4:6/2 2:100/3");
    }

    // Promise 5
    private static void postpone() {
        MortgageRegister x = withParcels(400, 400);
        x.register(0, 100, 0b11);
        x.register(1, 250, 0b11);
        x.register(2, 50, 0b01);
        CHECK.due("5: the slots", x.postpone(0, 0, 1), 4);
        row("5: a slot is parted", x, 0, "1:100/1 1:150/2 0:100/2 2:50/3");
        row("5: the other parcel", x, 1, "0:100/1 1:250/2");
        CHECK.due("5: back again", x.postpone(0, 1, 0), 3);
        row("5: slots become one", x, 0, "0:100/1 1:250/2 2:50/3");
        CHECK.due("5: behind a small one", x.postpone(0, 0, 2), 4);
        row("5: the place of the first is parted", x, 0, "2:50/1 0:50/1 1:250/2 0:50/3");
        CHECK.due("5: with two slots", x.postpone(0, 0, 1), 5);
        row("5: through all places", x, 0, "2:50/1 1:50/1 1:200/2 0:50/2 0:50/3");
        CHECK.due("5: debts stay", x.mortgage(0, 1), 100);
        MortgageRegister y = withParcels(400);
        y.register(0, 100, 1);
        y.register(1, 100, 1);
        CHECK.due("5: alike in amount", y.postpone(0, 0, 1), 2);
        row("5: they swap", y, 0, "1:100/1 0:100/2");
    }

    private static void postponeInEqualRank() {
        MortgageRegister x = withParcels(900);
        x.register(0, 60, 1);
        x.register(1, 30, 1);
        x.registerEqual(2, 20, 1, 1);
        x.registerEqual(3, 10, 1, 1);
        CHECK.due("5: a part within an equal rank", x.postpone(0, 0, 3), 5);
        row("5: the first part is for the other", x, 0, "3:10/1 0:50/1 1:30/2 2:20/2 0:10/2");
        CHECK.due("5: whatever stands between", x.postpone(0, 3, 1), 6);
        row("5: others keep their slots", x, 0, "1:10/1 0:50/1 1:20/2 3:10/2 2:20/2 0:10/2");
    }

    private static void postponeRefused() {
        MortgageRegister x = withParcels(400, 300);
        x.register(0, 100, 0b01);
        x.register(1, 50, 0b11);
        x.registerEqual(2, 20, 0b01, 0);
        x.register(3, 20, 0b10);
        x.register(4, 20, 0b11);
        x.cancel(4);
        CHECK.refused("5: no such parcel", 1, x, () -> x.postpone(2, 0, 1));
        CHECK.refused("5: parcel -1", 1, x, () -> x.postpone(-1, 0, 1));
        CHECK.refused("5: no such mortgage", 1, x, () -> x.postpone(0, 5, 1));
        CHECK.refused("5: mortgage -1", 1, x, () -> x.postpone(0, 0, -1));
        CHECK.refused("5: a gone one", 1, x, () -> x.postpone(0, 0, 4));
        CHECK.refused("5: a gone one twice", 1, x, () -> x.postpone(0, 4, 4));
        CHECK.refused("5: the first is not on it", 3, x, () -> x.postpone(0, 3, 1));
        CHECK.refused("5: the other is not on it", 3, x, () -> x.postpone(1, 1, 0));
        CHECK.refused("5: the same", 3, x, () -> x.postpone(0, 0, 0));
        CHECK.refused("5: equal ranks", 6, x, () -> x.postpone(0, 0, 2));
        CHECK.refused("5: behind one that is behind", 6, x, () -> x.postpone(0, 1, 0));
    }

    // Promise 6
    private static void release() {
        MortgageRegister x = withParcels(400, 300, 200);
        x.register(0, 100, 0b111);
        x.register(1, 50, 0b001);
        x.registerEqual(2, 20, 0b001, 1);
        CHECK.due("6: two are left", x.release(0, 0), 2);
        row("6: ranks anew, equal ones stay equal", x, 0, "1:50/1 2:20/1");
        CHECK.due("6: the set", x.mortgage(0, 2), 0b110);
        CHECK.due("6: the debt stays", x.mortgage(0, 1), 100);
        CHECK.refused("6: not on it any more", 3, x, () -> x.release(0, 0));
        CHECK.due("6: one is left", x.release(0, 2), 1);
        CHECK.refused("6: the last one", 7, x, () -> x.release(0, 1));
        CHECK.refused("6: not on it, though on one only", 3, x, () -> x.release(0, 2));
        CHECK.refused("6: no such mortgage", 1, x, () -> x.release(3, 0));
        CHECK.refused("6: mortgage -1", 1, x, () -> x.release(-1, 0));
        CHECK.refused("6: no such parcel", 1, x, () -> x.release(0, 3));
        CHECK.refused("6: parcel -1", 1, x, () -> x.release(0, -1));
        x.cancel(0);
        CHECK.refused("6: a gone mortgage", 1, x, () -> x.release(0, 1));
        CHECK.due("6: no account of it", x.account(4), 100);
    }

    // Promise 7
    private static void cancel() {
        MortgageRegister x = withParcels(400, 300);
        x.register(0, 100, 0b11);
        x.register(1, 50, 0b11);
        x.pay(0, 30);
        CHECK.due("7: the debt", x.cancel(0), 70);
        row("7: row 0", x, 0, "1:50/1");
        row("7: row 1", x, 1, "1:50/1");
        CHECK.due("7: cancelled", x.account(4), 70);
        CHECK.due("7: the debt then", x.mortgage(0, 1), 0);
        CHECK.due("7: the set then", x.mortgage(0, 2), 0);
        CHECK.due("7: what was paid stays", x.mortgage(0, 3), 30);
        CHECK.refused("7: a gone one", 1, x, () -> x.cancel(0));
        CHECK.refused("7: none such", 1, x, () -> x.cancel(2));
        CHECK.refused("7: -1", 1, x, () -> x.cancel(-1));
        x.cancel(1);
        CHECK.due("7: the sum", x.account(4), 120);
    }

    // Promise 8
    private static void pay() {
        MortgageRegister x = withParcels(400, 300);
        x.register(0, 100, 0b11);
        x.register(1, 250, 0b11);
        x.register(2, 10, 0b01);
        x.postpone(0, 0, 1);
        row("8: before", x, 0, "1:100/1 1:150/2 0:100/2 2:10/3");
        CHECK.due("8: the debt then", x.pay(1, 120), 130);
        row("8: the last slot first", x, 0, "1:100/1 1:30/2 0:100/2 2:10/3");
        row("8: on each parcel", x, 1, "0:100/1 1:130/2");
        CHECK.due("8: over a whole slot", x.pay(1, 40), 90);
        row("8: a slot vanishes, its rank stays", x, 0, "1:90/1 0:100/2 2:10/3");
        CHECK.due("8: all", x.pay(0, 100), 0);
        row("8: a rank vanishes", x, 0, "1:90/1 2:10/2");
        CHECK.due("8: what was paid", x.mortgage(1, 3), 160);
        CHECK.due("8: the account", x.account(2), 260);
        CHECK.refused("8: a gone one", 1, x, () -> x.pay(0, 1));
        CHECK.refused("8: none such", 1, x, () -> x.pay(3, 1));
        CHECK.refused("8: 0", 2, x, () -> x.pay(1, 0));
        CHECK.refused("8: 10000", 2, x, () -> x.pay(1, 10000));
        CHECK.refused("8: more than the debt", 8, x, () -> x.pay(1, 91));
        CHECK.due("8: just the debt", x.pay(1, 90), 0);
    }

    private static void payMakesNeighboursOne() {
        MortgageRegister x = withParcels(900);
        x.register(0, 50, 1);
        x.register(1, 100, 1);
        x.registerEqual(2, 10, 1, 1);
        x.registerEqual(3, 20, 1, 1);
        x.postpone(0, 0, 3);
        row("8: before", x, 0, "3:20/1 0:30/1 1:100/2 2:10/2 0:20/2");
        x.postpone(0, 0, 1);
        row("8: one on both sides", x, 0, "3:20/1 1:30/1 1:70/2 0:30/2 2:10/2 0:20/2");
        x.pay(2, 10);
        row("8: they become one", x, 0, "3:20/1 1:30/1 1:70/2 0:50/2");
        x.pay(0, 50);
        x.pay(1, 70);
        row("8: one rank is left", x, 0, "3:20/1 1:30/1");
    }

    // Promise 9
    private static void split() {
        MortgageRegister x = withParcels(500, 2, 1);
        x.register(0, 100, 0b001);
        x.registerEqual(1, 50, 0b001, 0);
        x.auction(1, 7, 0);
        CHECK.due("9: the number", x.split(0, 200), 3);
        CHECK.due("9: the worth", x.parcel(0, 0), 300);
        CHECK.due("9: the new worth", x.parcel(3, 0), 200);
        row("9: like slots", x, 3, "0:100/1 1:50/1");
        CHECK.due("9: the set", x.mortgage(0, 2), 0b1001);
        CHECK.due("9: the debt stays", x.mortgage(0, 1), 100);
        CHECK.due("9: the least worths", x.split(1, 1), 4);
        CHECK.due("9: the price stays", x.parcel(1, 4), 7);
        CHECK.due("9: the new price", x.parcel(4, 4), 0);
        CHECK.refused("9: no such parcel", 1, x, () -> x.split(5, 1));
        CHECK.refused("9: parcel -1", 1, x, () -> x.split(-1, 1));
        CHECK.refused("9: worth 0", 2, x, () -> x.split(0, 0));
        CHECK.refused("9: all its worth", 2, x, () -> x.split(0, 300));
        CHECK.refused("9: a worth of 1", 2, x, () -> x.split(2, 1));
        x.pay(1, 50);
        row("9: the rows go on by themselves", x, 3, "0:100/1");
        x.split(0, 299);
        x.split(5, 1);
        x.split(5, 1);
        CHECK.refused("9: a ninth", 4, x, () -> x.split(5, 1));
        CHECK.refused("9: first out of range, then full", 2, x, () -> x.split(5, 297));
    }

    // Promise 10
    private static void unite() {
        MortgageRegister x = withParcels(500, 9499, 300, 5000);
        x.register(0, 100, 0b0011);
        x.register(1, 50, 0b0011);
        x.register(2, 50, 0b0100);
        x.auction(3, 50, 0);
        CHECK.due("10: the greatest worth", x.unite(0, 1), 9999);
        row("10: the row stays", x, 0, "0:100/1 1:50/2");
        CHECK.due("10: the set", x.mortgage(0, 2), 0b0001);
        CHECK.thrown("10: the other is gone", IndexOutOfBoundsException.class, x, () -> x.parcel(1, 0));
        CHECK.due("10: parcels that there are", x.count(0), 3);
        CHECK.refused("10: a gone one", 1, x, () -> x.unite(0, 1));
        CHECK.refused("10: none such", 1, x, () -> x.unite(4, 0));
        CHECK.refused("10: -1", 1, x, () -> x.unite(0, -1));
        CHECK.refused("10: too great a worth", 2, x, () -> x.unite(0, 2));
        CHECK.refused("10: itself with too great a worth", 2, x, () -> x.unite(3, 3));
        CHECK.refused("10: itself", 3, x, () -> x.unite(2, 2));
        CHECK.refused("10: one without slots", 6, x, () -> x.unite(2, 3));
        MortgageRegister y = withParcels(10, 20, 30);
        y.auction(0, 5, 1);
        y.auction(1, 6, 1);
        CHECK.due("10: both without slots", y.unite(0, 1), 30);
        CHECK.due("10: the price of the first", y.parcel(0, 4), 5);
        unlikeRows();
    }

    private static void unlikeRows() {
        MortgageRegister x = withParcels(10, 20);
        x.register(0, 50, 0b01);
        x.register(1, 50, 0b10);
        CHECK.refused("10: only the mortgages differ", 6, x, () -> x.unite(0, 1));

        MortgageRegister y = withParcels(10, 20);
        y.register(0, 40, 0b11);
        y.register(1, 60, 0b11);
        y.registerEqual(2, 10, 0b10, 0);
        y.postpone(1, 2, 1);
        y.postpone(1, 0, 1);
        y.cancel(2);
        y.postpone(0, 0, 1);
        row("10: row 0", y, 0, "1:40/1 1:20/2 0:40/2");
        row("10: row 1", y, 1, "1:50/1 1:10/2 0:40/2");
        CHECK.refused("10: only the amounts differ", 6, y, () -> y.unite(0, 1));

        MortgageRegister z = withParcels(10, 20);
        z.register(0, 10, 0b11);
        z.register(1, 10, 0b11);
        z.registerEqual(2, 10, 0b11, 1);
        z.postpone(0, 0, 2);
        z.postpone(1, 0, 1);
        z.cancel(2);
        row("10: row 0 of equal ranks", z, 0, "1:10/1 0:10/1");
        row("10: row 1 of two ranks", z, 1, "1:10/1 0:10/2");
        CHECK.refused("10: only the ranks differ", 6, z, () -> z.unite(0, 1));
    }

    // Promise 11
    private static void join() {
        MortgageRegister x = withParcels(900, 800);
        x.register(0, 60, 0b11);
        x.register(0, 40, 0b11);
        x.registerEqual(0, 30, 0b11, 1);
        x.pay(1, 1);
        CHECK.due("11: the debt then", x.join(1, 2), 69);
        row("11: slots of one rank become one", x, 0, "0:60/1 1:69/2");
        row("11: on each parcel", x, 1, "0:60/1 1:69/2");
        CHECK.due("11: with several ranks", x.join(0, 1), 129);
        row("11: the ranks stay", x, 0, "0:60/1 0:69/2");
        CHECK.due("11: it is gone", x.mortgage(1, 1), 0);
        CHECK.due("11: it lies on none", x.mortgage(1, 2), 0);
        CHECK.due("11: what was paid stays with it", x.mortgage(1, 3), 1);
        CHECK.due("11: nothing was paid to the other", x.mortgage(0, 3), 0);
        CHECK.due("11: all debts", x.account(1), 129);
        CHECK.due("11: nothing is cancelled", x.account(4), 0);
        CHECK.refused("11: a gone one", 1, x, () -> x.join(0, 1));
        CHECK.refused("11: to a gone one", 1, x, () -> x.join(1, 0));
        CHECK.refused("11: none such", 1, x, () -> x.join(0, 3));
        CHECK.refused("11: -1", 1, x, () -> x.join(-1, 0));
        CHECK.refused("11: itself", 3, x, () -> x.join(0, 0));
        MortgageRegister y = withParcels(9);
        y.register(0, 9000, 1);
        y.register(0, 999, 1);
        CHECK.due("11: the greatest debt", y.join(0, 1), 9999);
    }

    private static void joinRefused() {
        MortgageRegister x = withParcels(900, 800);
        x.register(0, 5000, 0b01);
        x.register(0, 40, 0b01);
        x.register(1, 30, 0b01);
        x.register(0, 20, 0b11);
        x.register(0, 5000, 0b10);
        x.register(0, 10, 0b01);
        CHECK.refused("11: too great a debt", 2, x, () -> x.join(0, 4));
        CHECK.refused("11: itself with too great a debt", 2, x, () -> x.join(4, 4));
        CHECK.refused("11: another creditor", 5, x, () -> x.join(1, 2));
        CHECK.refused("11: other parcels", 5, x, () -> x.join(1, 3));
        CHECK.refused("11: the one that stays is behind", 6, x, () -> x.join(1, 0));
        CHECK.refused("11: others between them", 6, x, () -> x.join(1, 5));
        CHECK.due("11: just behind", x.join(0, 1), 5040);
        MortgageRegister y = withParcels(900, 800);
        y.register(0, 10, 0b11);
        y.register(0, 10, 0b11);
        y.register(1, 5, 0b10);
        y.postpone(1, 1, 2);
        CHECK.refused("11: one parcel does not allow it", 6, y, () -> y.join(0, 1));
        slotsThatAreNoBlock();
    }

    private static void slotsThatAreNoBlock() {
        MortgageRegister x = withParcels(900);
        x.register(0, 10, 1);
        x.register(1, 4, 1);
        x.register(0, 20, 1);
        x.postpone(0, 0, 1);
        row("11: before", x, 0, "1:4/1 0:6/1 0:4/2 2:20/3");
        CHECK.due("11: two slots and one", x.join(0, 2), 30);
        row("11: all belong to the one", x, 0, "1:4/1 0:6/1 0:4/2 0:20/3");
        MortgageRegister y = withParcels(900);
        y.register(0, 10, 1);
        y.register(1, 20, 1);
        y.register(2, 4, 1);
        y.register(0, 20, 1);
        y.postpone(0, 0, 2);
        row("11: the first is parted", y, 0, "2:4/1 0:6/1 1:20/2 0:4/3 3:20/4");
        CHECK.refused("11: another within the first", 6, y, () -> y.join(0, 3));
        MortgageRegister z = withParcels(900);
        z.register(0, 20, 1);
        z.register(0, 10, 1);
        z.register(1, 20, 1);
        z.register(2, 4, 1);
        z.postpone(0, 1, 3);
        row("11: the second is parted", z, 0, "0:20/1 3:4/2 1:6/2 2:20/3 1:4/4");
        z.cancel(3);
        row("11: with another within it", z, 0, "0:20/1 1:6/2 2:20/3 1:4/4");
        CHECK.refused("11: another within the second", 6, z, () -> z.join(0, 1));
        z.cancel(2);
        CHECK.due("11: then it is a block", z.join(0, 1), 30);
    }

    // Promise 12
    private static void auction() {
        MortgageRegister x = withParcels(900, 800);
        x.register(0, 100, 0b01);
        x.register(1, 200, 0b01);
        CHECK.due("12: the surplus", x.auction(0, 350, 20), 30);
        CHECK.due("12: no slots", x.parcel(0, 1), 0);
        CHECK.due("12: the worth stays", x.parcel(0, 0), 900);
        CHECK.due("12: the price", x.parcel(0, 4), 350);
        CHECK.due("12: paid to the second", x.mortgage(1, 3), 200);
        CHECK.due("12: nothing lost", x.account(5), 0);
        CHECK.due("12: without slots", x.auction(1, 9999, 0), 9999);
        CHECK.due("12: all is costs", x.auction(1, 9999, 9999), 0);
        CHECK.due("12: the least price", x.auction(1, 1, 0), 1);
        CHECK.due("12: the latest price", x.parcel(1, 4), 1);
        CHECK.due("12: prices", x.account(6), 350 + 9999 + 9999 + 1);
        CHECK.due("12: costs", x.account(7), 20 + 9999);
        CHECK.due("12: surpluses", x.account(8), 30 + 9999 + 1);
        x.register(2, 70, 0b01);
        x.register(3, 60, 0b01);
        CHECK.due("12: the first rank first", x.auction(0, 100, 10), 0);
        CHECK.due("12: it gets all", x.mortgage(2, 3), 70);
        CHECK.due("12: the next one gets what remains", x.mortgage(3, 3), 20);
        CHECK.due("12: the rest is lost", x.account(5), 40);
        CHECK.due("12: it is gone", x.mortgage(3, 1), 0);
        x.register(4, 70, 0b01);
        CHECK.due("12: just enough", x.auction(0, 70, 0), 0);
        CHECK.due("12: no more is lost", x.account(5), 40);
    }

    private static void auctionSharesARank() {
        MortgageRegister x = withParcels(900);
        x.register(0, 10, 1);
        x.register(1, 30, 1);
        x.registerEqual(2, 30, 1, 1);
        x.registerEqual(3, 41, 1, 1);
        x.register(4, 10, 1);
        // 50 of 101: 14.85, 14.85 and 20.29 are 48, and the two that remain go to the first two.
        CHECK.due("12: the surplus", x.auction(0, 60, 0), 0);
        CHECK.due("12: the lower rank", x.mortgage(0, 3), 10);
        CHECK.due("12: one more for the first", x.mortgage(1, 3), 15);
        CHECK.due("12: one more for the second", x.mortgage(2, 3), 15);
        CHECK.due("12: rounded down for the third", x.mortgage(3, 3), 20);
        CHECK.due("12: nothing for the next rank", x.mortgage(4, 3), 0);
        CHECK.due("12: lost", x.account(5), 15 + 15 + 21 + 10);
        MortgageRegister y = withParcels(900);
        y.register(0, 9999, 1);
        y.registerEqual(1, 9999, 1, 0);
        CHECK.due("12: large amounts", y.auction(0, 9999, 0), 0);
        CHECK.due("12: one more", y.mortgage(0, 3), 5000);
        CHECK.due("12: the other", y.mortgage(1, 3), 4999);
        sharesGoBySlots();
    }

    private static void sharesGoBySlots() {
        MortgageRegister x = withParcels(900);
        x.register(0, 50, 1);
        x.register(1, 100, 1);
        x.registerEqual(2, 10, 1, 1);
        x.registerEqual(3, 20, 1, 1);
        x.postpone(0, 0, 3);
        x.postpone(0, 0, 1);
        row("12: two slots in a rank", x, 0, "3:20/1 1:30/1 1:70/2 0:30/2 2:10/2 0:20/2");
        // 50 for rank 1, 45 of 130 for rank 2: 24.2, 10.4, 3.5 and 6.9 are 43; 2 remain for the first two slots.
        CHECK.due("12: the price is used up", x.auction(0, 95, 0), 0);
        CHECK.due("12: mortgage 1", x.mortgage(1, 3), 30 + 24 + 1);
        CHECK.due("12: mortgage 0, each slot rounded", x.mortgage(0, 3), 10 + 1 + 6);
        CHECK.due("12: mortgage 2", x.mortgage(2, 3), 3);
        CHECK.due("12: mortgage 3", x.mortgage(3, 3), 20);
    }

    private static void auctionPaysOnOtherParcels() {
        MortgageRegister x = withParcels(500, 300, 200);
        x.register(0, 200, 0b011);
        x.register(1, 150, 0b001);
        x.register(2, 90, 0b111);
        CHECK.due("12: nothing remains", x.auction(0, 260, 10), 0);
        CHECK.due("12: paid in full", x.mortgage(0, 1), 0);
        row("12: its slots vanish elsewhere", x, 1, "2:90/1");
        CHECK.due("12: partly paid and lost", x.mortgage(1, 3), 50);
        CHECK.due("12: lost", x.account(5), 100);
        CHECK.due("12: one that lies elsewhere stays", x.mortgage(2, 1), 90);
        CHECK.due("12: its set", x.mortgage(2, 2), 0b110);
        x.auction(1, 30, 0);
        CHECK.due("12: paid by the next auction", x.mortgage(2, 1), 60);
        row("12: less on the other parcel", x, 2, "2:60/1");
        CHECK.due("12: not lost yet", x.account(5), 100);
        CHECK.due("12: the last parcel", x.auction(2, 200, 0), 140);
        CHECK.due("12: paid in auctions", x.account(3), 250 + 30 + 60);
        CHECK.due("12: nothing outside", x.account(2), 0);
    }

    private static void auctionRefused() {
        MortgageRegister x = withParcels(500, 20);
        x.register(0, 200, 0b01);
        CHECK.refused("12: no such parcel", 1, x, () -> x.auction(2, 0, 0));
        CHECK.refused("12: parcel -1", 1, x, () -> x.auction(-1, 1, 0));
        CHECK.refused("12: price 0", 2, x, () -> x.auction(0, 0, 0));
        CHECK.refused("12: price 10000", 2, x, () -> x.auction(0, 10000, 0));
        CHECK.refused("12: costs -1", 2, x, () -> x.auction(0, 1, -1));
        CHECK.refused("12: costs 10000", 2, x, () -> x.auction(0, 9999, 10000));
        CHECK.refused("12: price 0 and costs above it", 2, x, () -> x.auction(0, 0, 1));
        CHECK.refused("12: costs above the price", 8, x, () -> x.auction(0, 9998, 9999));
    }

    private static void accountsAddUp() {
        MortgageRegister x = withParcels(500, 300);
        x.register(0, 200, 0b11);
        x.register(1, 150, 0b01);
        x.register(2, 100, 0b11);
        x.register(3, 60, 0b10);
        x.pay(0, 33);
        x.auction(0, 250, 7);
        x.cancel(3);
        long sum = 0;
        for (int what = 1; what <= 5; what++) {
            sum += x.account(what);
        }
        CHECK.due("30: 1 to 5", sum, x.account(0));
        CHECK.due("30: 3, 7 and 8", x.account(3) + x.account(7) + x.account(8), x.account(6));
    }
}
