/** Promises 35 to 38: counts, undo, and the snapshot. */
public final class HistoryTest {
    private static final Class<IllegalStateException> NOT_NOW = IllegalStateException.class;
    private static final Check CHECK = new Check("HistoryTest");

    private HistoryTest() {
    }

    public static void main(String[] args) {
        count();
        countedOnlyIfChanged();
        undo();
        undoneNumbers();
        undoEveryChange();
        refusedChangesCostNothing();
        save();
        restore();
        restoreFillsAnew();
        restoreUsedNumbers();
        rowsThatGrow();
        CHECK.end();
    }

    // Promise 35
    private static void count() {
        MortgageRegister x = new MortgageRegister();
        x.addParcel(100);
        x.addParcel(200);
        x.addParcel(300);
        x.register(0, 10, 0b111);
        x.register(1, 20, 0b001);
        x.cancel(1);
        x.unite(1, 2);
        x.append('n' << 8 | '1');
        int[] due = {2, 3, 1, 2, 2, 7, 2};
        for (int what = 0; what < 7; what++) {
            CHECK.due("35: " + what, x.count(what), due[what]);
        }
        CHECK.thrown("35: 7", IllegalArgumentException.class, x, () -> x.count(7));
        CHECK.thrown("35: -1", IllegalArgumentException.class, x, () -> x.count(-1));
        x.pay(0, 1);
        x.pay(0, 1);
        CHECK.due("35: no more than 8 changes", x.count(5), 8);
    }

    // "A change is a successful call of any method from addParcel to run, except append."
    private static void countedOnlyIfChanged() {
        MortgageRegister x = new MortgageRegister();
        x.addParcel(100);
        x.register(0, 10, 1);
        x.register(0, 20, 1);
        x.newDrawer(0, 0, 1);
        x.file(0, 0, 0, 0);
        x.copyDrawer(0, 1);
        x.save();
        x.append('n');
        CHECK.thrown("14: a fault", IllegalArgumentException.class, x::run);
        CHECK.due("35: what is no change", x.count(5), 3);
        CHECK.refused("35: what is refused", 2, x, () -> x.addParcel(0));
        x.append('c' << 24 | '0' << 16 | ';' << 8 | 'c');
        x.append('0' << 8 | ';');
        CHECK.thrown("14: the second entry is refused", UnsupportedOperationException.class, x::run);
        CHECK.due("35: still", x.count(5), 3);
        x.append('c' << 24 | '0' << 16 | ';' << 8 | 'c');
        x.append('1' << 8 | ';');
        CHECK.due("14: two entries", x.run(), 2);
        CHECK.due("35: are one change", x.count(5), 4);
        CHECK.due("36: which is undone at once", x.undo(), 3);
        CHECK.due("36: with both entries", x.count(2), 2);
        CHECK.due("36: undo is no change", x.count(5), 3);
    }

    // Promise 36
    private static void undo() {
        MortgageRegister x = new MortgageRegister();
        CHECK.thrown("36: nothing is kept", NOT_NOW, x, x::undo);
        x.addParcel(100);
        x.register(0, 100, 1);
        for (int i = 1; i <= 8; i++) {
            x.pay(0, i);
        }
        for (int i = 8; i >= 1; i--) {
            CHECK.due("36: what is left", x.undo(), i - 1);
            CHECK.due("36: the debt", x.mortgage(0, 1), 100 - (i - 1) * i / 2);
            CHECK.due("36: the account", x.account(2), (i - 1) * i / 2);
        }
        CHECK.thrown("36: only 8 are kept", NOT_NOW, x, x::undo);
        x.pay(0, 50);
        CHECK.due("36: a new one", x.undo(), 0);
        CHECK.due("36: the debt then", x.mortgage(0, 1), 100);
        for (int i = 0; i < 30; i++) {
            x.pay(0, 1);
            x.pay(0, 1);
            x.undo();
        }
        CHECK.due("36: around the ring", x.mortgage(0, 1), 70);
        for (int i = 6; i >= 0; i--) {
            CHECK.due("36: what is left of the ring", x.undo(), i);
            CHECK.due("36: the debt in the ring", x.mortgage(0, 1), 77 - i);
        }
    }

    // What was undone never was, and its number is free again.
    private static void undoneNumbers() {
        MortgageRegister x = new MortgageRegister();
        x.addParcel(100);
        x.undo();
        CHECK.thrown("17: a parcel that was undone", IndexOutOfBoundsException.class, x, () -> x.parcel(0, 0));
        CHECK.due("36: its number", x.addParcel(200), 0);
        x.register(0, 10, 1);
        x.undo();
        CHECK.thrown("19: a mortgage that was undone", IndexOutOfBoundsException.class, x, () -> x.mortgage(0, 0));
        CHECK.thrown("20: its rank", IndexOutOfBoundsException.class, x, () -> x.rank(0, 0, true));
        CHECK.refused("7: it is none", 1, x, () -> x.cancel(0));
        CHECK.due("36: its number", x.register(3, 20, 1), 0);
        CHECK.due("19: its creditor", x.mortgage(0, 0), 3);
        x.cancel(0);
        x.undo();
        CHECK.due("36: one that was gone is there", x.pay(0, 1), 19);
    }

    private interface Change {
        int make(MortgageRegister x);
    }

    private static void undoEveryChange() {
        undone("addParcel", x -> x.addParcel(5));
        undone("register", x -> x.register(1, 1, 1));
        undone("registerEqual", x -> x.registerEqual(1, 1, 1, 0));
        undone("postpone", x -> x.postpone(0, 0, 1));
        undone("release", x -> x.release(0, 1));
        undone("cancel", x -> x.cancel(0));
        undone("pay", x -> x.pay(1, 5));
        undone("split", x -> x.split(0, 5));
        undone("unite", x -> x.unite(0, 1));
        undone("join", x -> x.join(0, 1));
        undone("auction", x -> x.auction(0, 120, 10));
        undone("run", x -> {
            x.append('c' << 16 | '0' << 8 | ';');
            return x.run();
        });
    }

    private static void undone(String name, Change change) {
        MortgageRegister x = new MortgageRegister();
        x.addParcel(500);
        x.addParcel(300);
        x.register(0, 100, 0b11);
        x.register(0, 60, 0b11);
        String before = Dump.of(x);
        change.make(x);
        CHECK.due("36: kept behind " + name, x.count(5), 5);
        CHECK.isFalse("36: " + name + " changes something", Dump.of(x).equals(before));
        CHECK.due("36: left behind " + name, x.undo(), 4);
        CHECK.due("36: " + name + " is undone", Dump.of(x), before);
    }

    private static void refusedChangesCostNothing() {
        MortgageRegister x = new MortgageRegister();
        x.addParcel(100);
        x.register(0, 100, 1);
        for (int i = 0; i < 8; i++) {
            x.pay(0, 1);
        }
        for (int i = 0; i < 20; i++) {
            CHECK.refused("36: refused", 8, x, () -> x.pay(0, 93));
        }
        for (int i = 7; i >= 0; i--) {
            CHECK.due("36: all are kept", x.undo(), i);
        }
        CHECK.due("36: the first debt", x.mortgage(0, 1), 100);
    }

    // Promise 37
    private static void save() {
        MortgageRegister x = new MortgageRegister();
        CHECK.due("37: none", x.save(), 0);
        x.addParcel(100);
        x.register(0, 10, 1);
        x.register(0, 20, 1);
        x.cancel(0);
        CHECK.due("37: those that were too", x.save(), 2);
        CHECK.due("37: no change", x.count(5), 4);
        x.undo();
        CHECK.due("37: the snapshot is not undone", x.restore(), 2);
        CHECK.due("37: the later snapshot", x.mortgage(0, 1), 0);
    }

    // Promise 38
    private static void restore() {
        MortgageRegister x = new MortgageRegister();
        x.addParcel(100);
        CHECK.thrown("38: no snapshot", NOT_NOW, x, x::restore);
        CHECK.due("38: the changes are kept then", x.count(5), 1);
        x.register(0, 10, 1);
        x.register(1, 20, 1);
        x.postpone(0, 0, 1);
        x.pay(1, 3);
        x.save();
        String saved = Dump.ofRegister(x);
        x.cancel(0);
        x.auction(0, 55, 5);
        x.register(3, 7, 1);
        CHECK.due("38: the mortgages", x.restore(), 2);
        CHECK.due("38: the register", Dump.ofRegister(x), saved);
        CHECK.due("38: changes are forgotten", x.count(5), 0);
        CHECK.thrown("38: nothing to undo", NOT_NOW, x, x::undo);
        x.pay(0, 10);
        CHECK.due("38: the snapshot is kept", x.restore(), 2);
        CHECK.due("38: the register again", Dump.ofRegister(x), saved);
        x.pay(0, 1);
        CHECK.due("38: a change behind it", x.undo(), 0);
        CHECK.due("38: is undone", Dump.ofRegister(x), saved);
        x.append('n');
        x.restore();
        CHECK.due("38: the text buffer stays", x.count(6), 1);
    }

    // "restore forgets them": all that were kept, but none that come later.
    private static void restoreFillsAnew() {
        MortgageRegister x = new MortgageRegister();
        x.addParcel(100);
        x.register(0, 100, 1);
        x.save();
        for (int i = 0; i < 9; i++) {
            x.pay(0, 1);
        }
        CHECK.due("35: 8 are kept", x.count(5), 8);
        x.restore();
        CHECK.due("38: all are forgotten", x.count(5), 0);
        CHECK.thrown("36: none is kept", NOT_NOW, x, x::undo);
        CHECK.due("38: the debt", x.mortgage(0, 1), 100);
        for (int i = 0; i < 9; i++) {
            x.pay(0, 2);
            CHECK.due("35: kept anew", x.count(5), Math.min(8, i + 1));
        }
        for (int i = 7; i >= 0; i--) {
            CHECK.due("36: undone anew", x.undo(), i);
        }
        CHECK.due("36: at the ninth before", x.mortgage(0, 1), 98);
        CHECK.thrown("36: no more", NOT_NOW, x, x::undo);
        CHECK.due("37: saved in place of the earlier one", x.save(), 1);
        x.cancel(0);
        x.restore();
        CHECK.due("38: the later one", x.mortgage(0, 1), 98);
    }

    // The snapshot must hold all numbers of a mortgage and a parcel whose numbers are used again.
    private static void restoreUsedNumbers() {
        MortgageRegister x = new MortgageRegister();
        x.addParcel(100);
        x.addParcel(200);
        x.register(1, 30, 2);
        x.pay(0, 3);
        x.auction(1, 9, 1);
        x.register(2, 40, 3);
        x.save();
        String saved = Dump.ofRegister(x);
        for (int i = 0; i < 6; i++) {
            x.undo();
        }
        CHECK.due("36: at the start", Dump.ofRegister(x), Dump.ofRegister(new MortgageRegister()));
        x.addParcel(300);
        x.register(3, 50, 1);
        x.auction(0, 77, 7);
        x.register(4, 60, 1);
        x.register(5, 70, 1);
        x.restore();
        CHECK.due("38: numbers that were used again", Dump.ofRegister(x), saved);
    }

    // With a row of some length, the changes that make it longer or shorter, or copy it.
    private static void everyChangeIsUndone(MortgageRegister x) {
        int slots = x.parcel(0, 1);
        String before = Dump.ofRegister(x);
        for (int m : new int[] {x.slot(0, 0, 0), x.slot(0, slots - 1, 0)}) {
            CHECK.due("7: a mortgage of " + slots + " slots", x.cancel(m), 5000 + 397 * m);
            x.undo();
            CHECK.due("8: a mortgage of " + slots + " slots", x.pay(m, 4000), 1000 + 397 * m);
            x.undo();
        }
        int part = x.split(0, 1);
        CHECK.due("9: a row of " + slots + " slots", x.parcel(part, 1), slots);
        CHECK.due("10: a row of " + slots + " slots", x.unite(part, 0), 9999);
        CHECK.due("10: it stays", x.parcel(part, 1), slots);
        x.undo();
        CHECK.due("6: a row of " + slots + " slots", x.release(x.slot(part, 0, 0), part), 1);
        x.undo();
        x.undo();
        CHECK.due("12: a row of " + slots + " slots", x.auction(0, 9999, 0), 0);
        CHECK.due("12: it vanishes", x.parcel(0, 1), 0);
        x.undo();
        CHECK.due("36: a row of " + slots + " slots", Dump.ofRegister(x), before);
    }

    // Postponements can make many slots; undo and snapshot must keep them all.
    private static void rowsThatGrow() {
        MortgageRegister x = new MortgageRegister();
        x.addParcel(9999);
        for (int m = 0; m < 12; m++) {
            if (m < 5) {
                x.register(0, 5000 + 397 * m, 1);
            } else {
                x.registerEqual(0, 5000 + 397 * m, 1, m % 5);
            }
        }
        x.save();
        String before = Dump.ofRegister(x);
        int most = 0;
        String beforeLast = before;
        for (int i = 0; i < 300; i++) {
            String now = Dump.ofRegister(x);
            try {
                x.postpone(0, i * 7 % 12, (i * 5 + i / 12) % 12);
                beforeLast = now;
            } catch (UnsupportedOperationException e) {
                continue;
            }
            int slots = x.parcel(0, 1);
            if (slots > most) {
                everyChangeIsUndone(x);
            }
            most = Math.max(most, slots);
        }
        CHECK.isTrue("5: many slots, " + most, most > 24);
        x.undo();
        CHECK.due("36: with many slots", Dump.ofRegister(x), beforeLast);
        x.restore();
        CHECK.due("38: with many slots", Dump.ofRegister(x), before);
    }
}
