import java.util.NoSuchElementException;

/** Promises 31 to 34: the drawers. */
public final class DrawersTest {
    private static final Class<IndexOutOfBoundsException> NO_SUCH = IndexOutOfBoundsException.class;
    private static final Class<NoSuchElementException> NOT_THERE = NoSuchElementException.class;
    private static final Class<IllegalArgumentException> WRONG = IllegalArgumentException.class;
    private static final Class<IllegalStateException> NOT_NOW = IllegalStateException.class;
    private static final Check CHECK = new Check("DrawersTest");

    private DrawersTest() {
    }

    public static void main(String[] args) {
        emptyAtFirst();
        newDrawer();
        file();
        fileAWorth();
        fileRefused();
        filed();
        copyDrawer();
        drawersStay();
        CHECK.end();
    }

    private static MortgageRegister example() {
        MortgageRegister x = new MortgageRegister();
        x.addParcel(500);
        x.addParcel(300);
        x.register(0, 200, 3);
        x.register(1, 100, 3);
        return x;
    }

    // "There are 3 drawers, each empty at first, or with 1 to 6 places"
    private static void emptyAtFirst() {
        MortgageRegister x = new MortgageRegister();
        for (int d = 0; d < 3; d++) {
            int drawer = d;
            int before = 0;
            CHECK.thrown("32: no places in " + d, NO_SUCH, x, () -> x.file(drawer, 0, 0, 0));
            CHECK.thrown("33: no places in " + d, NO_SUCH, x, () -> x.filed(drawer, 0, true));
            CHECK.thrown("34: nothing to copy in " + d, NOT_NOW, x, () -> x.copyDrawer(drawer, 0));
            for (int sort = 0; sort < 2; sort++) {
                for (int places = 1; places <= 6; places++) {
                    CHECK.due("31: drawer " + d + ", " + places + " places", x.newDrawer(d, sort, places), before);
                    before = places;
                    int last = places - 1;
                    CHECK.thrown("33: the last one is empty", NOT_THERE, x, () -> x.filed(drawer, last, true));
                    CHECK.thrown("33: none behind it", NO_SUCH, x, () -> x.filed(drawer, last + 1, true));
                }
            }
        }
    }

    // Promise 31
    private static void newDrawer() {
        MortgageRegister x = example();
        CHECK.due("31: it was empty", x.newDrawer(0, 0, 6), 0);
        CHECK.due("31: it had six places", x.newDrawer(0, 1, 1), 6);
        CHECK.due("31: it had one", x.newDrawer(0, 0, 3), 1);
        CHECK.due("31: another one was empty", x.newDrawer(2, 1, 2), 0);
        x.file(0, 2, 0, 1);
        x.newDrawer(0, 0, 3);
        CHECK.thrown("31: its places are empty", NOT_THERE, x, () -> x.filed(0, 2, true));
        CHECK.thrown("31: drawer 3", NO_SUCH, x, () -> x.newDrawer(3, 0, 1));
        CHECK.thrown("31: drawer -1", NO_SUCH, x, () -> x.newDrawer(-1, 9, 9));
        CHECK.thrown("31: sort 2", WRONG, x, () -> x.newDrawer(0, 2, 1));
        CHECK.thrown("31: sort -1", WRONG, x, () -> x.newDrawer(0, -1, 1));
        CHECK.thrown("31: 0 places", WRONG, x, () -> x.newDrawer(0, 0, 0));
        CHECK.thrown("31: 7 places", WRONG, x, () -> x.newDrawer(0, 0, 7));
    }

    // Promise 32
    private static void file() {
        MortgageRegister x = example();
        x.newDrawer(0, 0, 2);
        x.newDrawer(1, 1, 6);
        CHECK.due("32: a worth", x.file(0, 1, 0, 1), 300);
        CHECK.due("32: a debt", x.file(1, 5, 1, 0), 200);
        CHECK.due("33: the number", x.filed(0, 1, true), 1);
        CHECK.due("33: the debt", x.filed(1, 5, false), 200);
        CHECK.due("32: in place of what is there", x.file(0, 1, 0, 0), 500);
        CHECK.due("33: then", x.filed(0, 1, true), 0);
        x.pay(0, 50);
        CHECK.due("33: as it was when it was made", x.filed(1, 5, false), 200);
        x.unite(0, 1);
        CHECK.due("32: a gone parcel", x.file(0, 0, 0, 1), 0);
        x.cancel(1);
        CHECK.due("32: a gone mortgage", x.file(1, 0, 1, 1), 0);
        CHECK.due("33: its number", x.filed(1, 0, true), 1);
        CHECK.due("33: its debt", x.filed(1, 0, false), 0);
    }

    // "as it was when the excerpt was made"
    private static void fileAWorth() {
        MortgageRegister x = example();
        x.newDrawer(0, 0, 3);
        x.save();
        x.file(0, 0, 0, 0);
        x.split(0, 499);
        CHECK.due("32: the least worth", x.file(0, 1, 0, 0), 1);
        CHECK.due("32: the new parcel", x.file(0, 2, 0, 2), 499);
        CHECK.due("33: the worth before", x.filed(0, 0, false), 500);
        x.undo();
        CHECK.due("33: the worth before undo", x.filed(0, 1, false), 1);
        CHECK.due("33: a parcel that never was", x.filed(0, 2, true), 2);
        CHECK.thrown("32: is none", NOT_THERE, x, () -> x.file(0, 2, 0, 2));
        x.restore();
        CHECK.due("33: the worth before restore", x.filed(0, 2, false), 499);
        CHECK.thrown("32: a parcel 8", NOT_THERE, x, () -> x.file(0, 2, 0, 8));
    }

    private static void fileRefused() {
        MortgageRegister x = example();
        x.newDrawer(0, 0, 2);
        x.newDrawer(1, 1, 2);
        CHECK.thrown("32: drawer 3", NO_SUCH, x, () -> x.file(3, 0, 0, 0));
        CHECK.thrown("32: drawer -1", NO_SUCH, x, () -> x.file(-1, 0, 0, 0));
        CHECK.thrown("32: place 2", NO_SUCH, x, () -> x.file(0, 2, 0, 0));
        CHECK.thrown("32: place -1", NO_SUCH, x, () -> x.file(0, -1, 5, 9));
        CHECK.thrown("32: an empty drawer", NO_SUCH, x, () -> x.file(2, 0, 0, 0));
        CHECK.thrown("32: sort 2", WRONG, x, () -> x.file(0, 0, 2, 9));
        CHECK.thrown("32: sort -1", WRONG, x, () -> x.file(0, 0, -1, 0));
        CHECK.thrown("32: no such parcel", NOT_THERE, x, () -> x.file(0, 0, 0, 2));
        CHECK.thrown("32: parcel -1", NOT_THERE, x, () -> x.file(0, 0, 0, -1));
        CHECK.thrown("32: no such mortgage", NOT_THERE, x, () -> x.file(1, 0, 1, 2));
        CHECK.thrown("32: mortgage 12", NOT_THERE, x, () -> x.file(1, 0, 1, 12));
        CHECK.thrown("32: first none such, then the sort", NOT_THERE, x, () -> x.file(1, 0, 0, 2));
        CHECK.thrown("32: a parcel among mortgages", NOT_NOW, x, () -> x.file(1, 0, 0, 0));
        CHECK.thrown("32: a mortgage among parcels", NOT_NOW, x, () -> x.file(0, 0, 1, 0));
    }

    // Promise 33
    private static void filed() {
        MortgageRegister x = example();
        x.newDrawer(0, 0, 2);
        x.file(0, 0, 0, 0);
        CHECK.due("33: the number", x.filed(0, 0, true), 0);
        CHECK.due("33: the worth", x.filed(0, 0, false), 500);
        CHECK.thrown("33: an empty place", NOT_THERE, x, () -> x.filed(0, 1, true));
        CHECK.thrown("33: place 2", NO_SUCH, x, () -> x.filed(0, 2, true));
        CHECK.thrown("33: place -1", NO_SUCH, x, () -> x.filed(0, -1, true));
        CHECK.thrown("33: an empty drawer", NO_SUCH, x, () -> x.filed(1, 0, true));
        CHECK.thrown("33: drawer 3", NO_SUCH, x, () -> x.filed(3, 0, false));
        CHECK.thrown("33: drawer -1", NO_SUCH, x, () -> x.filed(-1, 0, false));
        x.newDrawer(0, 0, 6);
        x.file(0, 5, 0, 1);
        x.newDrawer(0, 0, 2);
        x.newDrawer(0, 0, 6);
        CHECK.thrown("33: nothing comes back", NOT_THERE, x, () -> x.filed(0, 5, true));
    }

    // Promise 34
    private static void copyDrawer() {
        MortgageRegister x = example();
        x.newDrawer(0, 0, 2);
        x.file(0, 1, 0, 1);
        x.newDrawer(2, 1, 5);
        CHECK.due("34: the places", x.copyDrawer(0, 2), 2);
        CHECK.due("34: an excerpt", x.filed(2, 1, false), 300);
        CHECK.thrown("34: an empty place", NOT_THERE, x, () -> x.filed(2, 0, true));
        CHECK.thrown("34: no more places", NO_SUCH, x, () -> x.filed(2, 2, true));
        CHECK.thrown("34: the sort too", NOT_NOW, x, () -> x.file(2, 0, 1, 0));
        x.file(2, 1, 0, 0);
        CHECK.due("34: the places are not shared", x.filed(0, 1, true), 1);
        x.file(0, 0, 0, 1);
        CHECK.thrown("34: nor the other way", NOT_THERE, x, () -> x.filed(2, 0, true));
        CHECK.due("34: to itself", x.copyDrawer(0, 0), 2);
        CHECK.due("34: it stays", x.filed(0, 0, true), 1);
        CHECK.thrown("34: from an empty one", NOT_NOW, x, () -> x.copyDrawer(1, 0));
        CHECK.thrown("34: from an empty one to itself", NOT_NOW, x, () -> x.copyDrawer(1, 1));
        CHECK.thrown("34: from 3", NO_SUCH, x, () -> x.copyDrawer(3, 0));
        CHECK.thrown("34: from -1", NO_SUCH, x, () -> x.copyDrawer(-1, 0));
        CHECK.thrown("34: to 3", NO_SUCH, x, () -> x.copyDrawer(1, 3));
        CHECK.thrown("34: to -1", NO_SUCH, x, () -> x.copyDrawer(0, -1));
        CHECK.due("34: over a larger one", x.newDrawer(2, 1, 6), 2);
        x.file(2, 5, 1, 1);
        CHECK.due("34: its places", x.copyDrawer(0, 2), 2);
        CHECK.thrown("34: what it had is gone", NO_SUCH, x, () -> x.filed(2, 5, true));
        CHECK.due("34: a larger one over it", x.newDrawer(1, 1, 6), 0);
        CHECK.due("34: six places", x.copyDrawer(1, 2), 6);
        CHECK.thrown("34: with nothing in them", NOT_THERE, x, () -> x.filed(2, 5, true));
        CHECK.thrown("34: nor in the first", NOT_THERE, x, () -> x.filed(2, 0, true));
    }

    private static void drawersStay() {
        MortgageRegister x = example();
        x.save();
        x.addParcel(44);
        x.newDrawer(0, 0, 1);
        x.file(0, 0, 0, 2);
        CHECK.due("35: drawers are no changes", x.count(5), 5);
        x.undo();
        CHECK.due("36: drawers stay", x.filed(0, 0, false), 44);
        CHECK.thrown("32: the parcel never was", NOT_THERE, x, () -> x.file(0, 0, 0, 2));
        x.restore();
        CHECK.due("38: drawers stay", x.filed(0, 0, true), 2);
    }
}
