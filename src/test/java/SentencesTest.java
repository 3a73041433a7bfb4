import java.util.NoSuchElementException;

/** The boundary cases that the sentences of the document's Description name, in the document's order. */
public final class SentencesTest {
    private static final Class<IndexOutOfBoundsException> NO_SUCH = IndexOutOfBoundsException.class;
    private static final Class<NoSuchElementException> NOT_THERE = NoSuchElementException.class;
    private static final Check CHECK = new Check("SentencesTest");
    private static String sentence = "";

    private SentencesTest() {
    }

    public static void main(String[] args) {
        parcelsKept();
        parcelsGone();
        mortgagesGone();
        mortgagesKept();
        mortgageNumbers();
        slotsAreSound();
        slotsBecomeOne();
        registering();
        postponingConditions();
        postponingToTheDebt();
        releasing();
        paying();
        splitting();
        uniting();
        joining();
        auctionPrices();
        auctionSlots();
        auctionElsewhere();
        cover();
        details();
        CHECK.end();
    }

    private static void sentence(String quoted) {
        sentence = '"' + quoted + "\": ";
    }

    private static void due(String what, long got, long want) {
        CHECK.due(sentence + what, got, want);
    }

    private static void row(String what, MortgageRegister x, int parcel, String want) {
        CHECK.due(sentence + what, Dump.row(x, parcel), want);
    }

    private static void refused(String what, int reason, MortgageRegister x, Check.Call call) {
        CHECK.refused(sentence + what, reason, x, call);
    }

    private static void thrown(String what, Class<? extends RuntimeException> type, MortgageRegister x,
            Check.Call call) {
        CHECK.thrown(sentence + what, type, x, call);
    }

    private static int run(MortgageRegister x, String text) {
        for (int i = 0; i < text.length(); i++) {
            x.append(text.charAt(i));
        }
        return x.run();
    }

    // ---- Parcels ----

    private static void parcelsKept() {
        sentence("At most 8 parcels are kept, numbered from 0, those that are gone included.");
        MortgageRegister x = new MortgageRegister();
        for (int p = 0; p < 7; p++) {
            due("parcel " + p, x.addParcel(10), p);
        }
        x.unite(0, 1);
        due("the eighth by a split", x.split(0, 1), 7);
        due("seven that there are", x.count(0), 7);
        due("eight that there are or were", x.count(1), 8);
        refused("a ninth", 4, x, () -> x.addParcel(1));
        refused("a ninth by a split", 4, x, () -> x.split(0, 1));
        CHECK.thrown(sentence + "by a text", UnsupportedOperationException.class, () -> run(x, "n1;"));
        due("for this reason", x.refusal(), 4);
        MortgageRegister y = ChangesTest.withParcels(10, 10);
        y.unite(1, 0);
        due("a number is not used again", y.addParcel(5), 2);
        due("nor by a split", y.split(1, 5), 3);

        sentence("A parcel has a worth from 1 to 9999.");
        MortgageRegister z = new MortgageRegister();
        due("both ends by a text", run(z, "n1;n9999;"), 2);
        due("the least", z.parcel(0, 0), 1);
        due("the greatest", z.parcel(1, 0), 9999);
        refused("below", 2, z, () -> z.addParcel(0));
        refused("above", 2, z, () -> z.addParcel(10000));
    }

    private static void parcelsGone() {
        sentence("Parcels that were united with another one stay with the worth 0 and are gone");
        MortgageRegister x = ChangesTest.withParcels(10, 10, 10);
        x.register(0, 5, 0b111);
        x.register(1, 6, 0b111);
        x.newDrawer(0, 0, 1);
        x.unite(1, 0);
        due("as an excerpt tells", x.file(0, 0, 0, 0), 0);
        due("the other one is there", x.file(0, 0, 0, 1), 20);

        sentence("there is no such parcel any more");
        refused("register", 1, x, () -> x.register(0, 1, 0b111));
        refused("registerEqual", 1, x, () -> x.registerEqual(0, 1, 0b001, 0));
        refused("postpone", 1, x, () -> x.postpone(0, 0, 1));
        refused("release", 1, x, () -> x.release(0, 0));
        refused("split", 1, x, () -> x.split(0, 1));
        refused("unite", 1, x, () -> x.unite(0, 1));
        refused("unite, the other way", 1, x, () -> x.unite(1, 0));
        refused("unite, twice", 1, x, () -> x.unite(0, 0));
        refused("auction", 1, x, () -> x.auction(0, 1, 0));
        thrown("parcel", NO_SUCH, x, () -> x.parcel(0, 0));
        thrown("slot", NO_SUCH, x, () -> x.slot(0, 0, 0));
        thrown("rank", NO_SUCH, x, () -> x.rank(0, 0, false));
        thrown("isAhead", NO_SUCH, x, () -> x.isAhead(0, 0, 1));
        thrown("proceeds", NO_SUCH, x, () -> x.proceeds(0, 1, 0, 0));
        thrown("surePrice", NO_SUCH, x, () -> x.surePrice(0, 0, 0));
        thrown("cover", NO_SUCH, x, () -> x.cover(0, 0));
        thrown("coverBits", NO_SUCH, x, () -> x.coverBits(0, 0));
        due("its slots are gone", x.count(4), 4);
        due("the set of a mortgage", x.mortgage(0, 2), 0b110);
        due("the claims", x.claims(0, 1), 10);
    }

    // ---- Mortgages ----

    private static final int[] GONE = {0, 1, 2, 3, 5, 6};

    /** All but mortgage 4 are gone, each in another way; mortgage 4 has two slots on parcel 1. */
    private static MortgageRegister withGoneMortgages() {
        MortgageRegister x = ChangesTest.withParcels(100, 100);
        x.register(1, 10, 0b11);
        x.cancel(0);
        x.register(1, 10, 0b11);
        x.pay(1, 10);
        x.register(1, 10, 0b01);
        x.register(1, 20, 0b01);
        x.auction(0, 15, 0);
        x.register(1, 10, 0b10);
        x.register(1, 20, 0b10);
        x.join(4, 5);
        x.register(1, 10, 0b11);
        x.auction(0, 10, 0);
        return x;
    }

    private static void mortgagesGone() {
        sentence("A mortgage whose debt is 0, or that lies on no parcel, is gone, and lies on none.");
        MortgageRegister x = withGoneMortgages();
        x.newDrawer(1, 1, 1);
        row("the only one that is there", x, 1, "4:10/1 4:20/2");
        due("how many there are", x.count(2), 1);
        due("how many there are or were", x.count(3), 7);
        for (int m : GONE) {
            due("the creditor of " + m, x.mortgage(m, 0), 1);
            due("the debt of " + m, x.mortgage(m, 1), 0);
            due("the set of " + m, x.mortgage(m, 2), 0);
            due("the slots of " + m, x.mortgage(m, 4), 0);
            due("the excerpt of " + m, x.file(1, 0, 1, m), 0);
            due("the proceeds of " + m, x.proceeds(1, 9999, 0, m), 0);
            refused("registerEqual, " + m, 1, x, () -> x.registerEqual(0, 1, 0b10, m));
            refused("postpone, " + m, 1, x, () -> x.postpone(1, m, 4));
            refused("postpone behind " + m, 1, x, () -> x.postpone(1, 4, m));
            refused("release, " + m, 1, x, () -> x.release(m, 1));
            refused("cancel, " + m, 1, x, () -> x.cancel(m));
            refused("pay, " + m, 1, x, () -> x.pay(m, 1));
            refused("join, " + m, 1, x, () -> x.join(m, 4));
            refused("joined by " + m, 1, x, () -> x.join(4, m));
            thrown("rank, " + m, NOT_THERE, x, () -> x.rank(1, m, false));
            thrown("isAhead, " + m, NOT_THERE, x, () -> x.isAhead(1, m, 4));
            thrown("ahead of " + m, NOT_THERE, x, () -> x.isAhead(1, 4, m));
            thrown("surePrice, " + m, NOT_THERE, x, () -> x.surePrice(1, 0, m));
            thrown("heaviest, " + m, NOT_THERE, x, () -> x.heaviest(m));
            thrown("cover, " + m, NOT_THERE, x, () -> x.cover(1, m));
            thrown("coverBits, " + m, NOT_THERE, x, () -> x.coverBits(1, m));
        }
    }

    private static void mortgagesKept() {
        sentence("At most 12 mortgages are kept, numbered from 0, those that are gone included.");
        MortgageRegister x = withGoneMortgages();
        for (int m = 7; m < 12; m++) {
            int number = m % 2 == 0 ? x.register(0, 1, 0b01) : x.registerEqual(0, 1, 0b10, 4);
            due("mortgage " + m, number, m);
        }
        due("six that there are", x.count(2), 6);
        due("twelve that there are or were", x.count(3), 12);
        refused("a thirteenth", 4, x, () -> x.register(0, 1, 0b01));
        refused("a thirteenth of equal rank", 4, x, () -> x.registerEqual(0, 1, 0b10, 4));
        CHECK.thrown(sentence + "by a text", UnsupportedOperationException.class, () -> run(x, "m0:1@1;"));
        due("for this reason", x.refusal(), 4);
        x.undo();
        due("a number that was undone is used again", x.register(0, 1, 0b01), 11);
    }

    private static void mortgageNumbers() {
        sentence("A mortgage has a creditor from 0 to 5 and a debt, at first its amount, which is from 1 to 9999.");
        MortgageRegister x = ChangesTest.withParcels(1);
        x.register(0, 9999, 1);
        for (int[] wrong : new int[][] {{-1, 1}, {6, 1}, {0, 0}, {0, -1}, {0, 10000}, {Integer.MIN_VALUE, 1},
            {Integer.MAX_VALUE, 1}, {5, Integer.MIN_VALUE}, {5, Integer.MAX_VALUE}}) {
            String what = wrong[0] + ", " + wrong[1];
            refused(what, 2, x, () -> x.register(wrong[0], wrong[1], 1));
            refused("equal rank, " + what, 2, x, () -> x.registerEqual(wrong[0], wrong[1], 1, 0));
        }
        due("the greatest creditor and the least amount", x.registerEqual(5, 1, 1, 0), 1);
        due("the creditor", x.mortgage(1, 0), 5);
        due("the debt", x.mortgage(1, 1), 1);
        due("the greatest debt", x.mortgage(0, 1), 9999);
        due("a sum above 9999", x.parcel(0, 3), 10000);
    }

    // ---- Slots ----

    private static void slotsAreSound() {
        int seed = 1;
        MortgageRegister x = ChangesTest.withParcels(50, 60, 70);
        for (int m = 0; m < 6; m++) {
            x.register(m % 2, 7 + 5 * m, 0b111);
        }
        for (int m = 6; m < 12; m++) {
            x.registerEqual(m % 2, 3 + 2 * m, 0b11 << m % 2, m - 6);
        }
        int made = 0;
        for (int i = 0; i < 400; i++) {
            seed = (seed * 1103515245 + 12345) & Integer.MAX_VALUE;
            made += isMade(x, i, seed >> 8);
            checkSound(x, i);
        }
        CHECK.isTrue("some changes are made: " + made, made > 60);
    }

    private static int isMade(MortgageRegister x, int step, int random) {
        int parcel = random % 3;
        int one = random / 3 % 12;
        int other = random / 36 % 12;
        try {
            if (step % 40 == 39) {
                x.release(one, parcel);
            } else if (step % 8 == 7) {
                x.pay(one, 1 + random / 432 % 4);
            } else if (step % 50 == 48) {
                x.join(one, other);
            } else if (step == 300) {
                x.auction(parcel, 60, 1);
            } else {
                x.postpone(parcel, one, other);
            }
            return 1;
        } catch (UnsupportedOperationException e) {
            return 0;
        }
    }

    private static void checkSound(MortgageRegister x, int step) {
        for (int p = 0; p < 3; p++) {
            int[] sums = new int[12];
            int last = x.parcel(p, 1) - 1;
            for (int i = 0; i <= last; i++) {
                int amount = x.slot(p, i, 1);
                int rank = x.slot(p, i, 2);
                int before = i == 0 ? 0 : x.slot(p, i - 1, 2);
                sums[x.slot(p, i, 0)] += amount;
                sentence("an amount above 0");
                CHECK.isTrue(sentence + "in step " + step, amount > 0);
                sentence("Ranks do not descend along the row, begin with 1, and leave out no number");
                CHECK.isTrue(sentence + "in step " + step, rank == before + 1 || i > 0 && rank == before);
                sentence("belong to the same mortgage and have the same rank become one");
                CHECK.isFalse(sentence + "in step " + step,
                    i > 0 && rank == before && x.slot(p, i, 0) == x.slot(p, i - 1, 0));
            }
            sentence("the amounts of its slots add up to its debt");
            for (int m = 0; m < 12; m++) {
                boolean lies = (x.mortgage(m, 2) >> p & 1) == 1;
                due("mortgage " + m + " in step " + step, sums[m], lies ? x.mortgage(m, 1) : 0);
            }
        }
    }

    /** On parcel 0, a slot of mortgage 2 stands between two slots of mortgage 0 of the same rank. */
    private static MortgageRegister withOneBetween() {
        MortgageRegister x = ChangesTest.withParcels(900, 800);
        x.register(0, 50, 0b01);
        x.register(1, 100, 0b11);
        x.registerEqual(2, 10, 0b11, 1);
        x.registerEqual(3, 20, 0b01, 1);
        x.postpone(0, 0, 3);
        x.postpone(0, 0, 1);
        return x;
    }

    private static void slotsBecomeOne() {
        sentence("Slots become one at once, behind each change of a row.");
        MortgageRegister x = withOneBetween();
        String before = "3:20/1 1:30/1 1:70/2 0:30/2 2:10/2 0:20/2";
        String behind = "3:20/1 1:30/1 1:70/2 0:50/2";
        row("apart, and two ranks are not one", x, 0, before);
        x.release(2, 0);
        row("by a release", x, 0, behind);
        x.undo();
        row("apart again", x, 0, before);
        x.cancel(2);
        row("by cancelling", x, 0, behind);
        x.undo();
        due("part of it is paid", x.pay(2, 9), 1);
        row("not yet", x, 0, "3:20/1 1:30/1 1:70/2 0:30/2 2:1/2 0:20/2");
        x.pay(2, 1);
        row("by paying", x, 0, behind);
        x.undo();
        x.undo();
        due("an auction elsewhere", x.auction(1, 110, 0), 0);
        row("by an auction elsewhere", x, 0, "3:20/1 0:50/2");
        due("the slots", x.mortgage(0, 4), 1);

        sentence("the ranks are told anew so, and slots that had the same rank still have the same one");
        MortgageRegister y = ChangesTest.withParcels(9);
        for (int m = 0; m < 4; m++) {
            y.register(0, 10 + m, 1);
        }
        y.registerEqual(0, 5, 1, 1);
        y.registerEqual(0, 6, 1, 3);
        row("before", y, 0, "0:10/1 1:11/2 4:5/2 2:12/3 3:13/4 5:6/4");
        y.cancel(2);
        row("within", y, 0, "0:10/1 1:11/2 4:5/2 3:13/3 5:6/3");
        y.cancel(1);
        row("one of a rank", y, 0, "0:10/1 4:5/2 3:13/3 5:6/3");
        y.pay(0, 10);
        row("the first", y, 0, "4:5/1 3:13/2 5:6/2");
        y.cancel(5);
        row("the last", y, 0, "4:5/1 3:13/2");
        y.cancel(3);
        y.cancel(4);
        row("all", y, 0, "");
        y.register(0, 1, 1);
        row("then it begins with 1", y, 0, "6:1/1");
    }

    // ---- Registering ----

    private static void registering() {
        sentence("A new mortgage gets a last slot with a new rank on each of its parcels.");
        MortgageRegister x = ChangesTest.withParcels(9, 9, 9);
        x.register(0, 10, 0b001);
        x.registerEqual(0, 11, 0b001, 0);
        x.register(0, 12, 0b011);
        row("behind an equal rank", x, 0, "0:10/1 1:11/1 2:12/2");
        row("the first one of a row", x, 1, "2:12/1");
        row("not on others", x, 2, "");

        sentence("a slot directly behind the last slot of the rank that the first slot of the other mortgage has");
        x.registerEqual(0, 13, 0b011, 2);
        row("at the end of the row", x, 0, "0:10/1 1:11/1 2:12/2 3:13/2");
        row("another rank on another parcel", x, 1, "2:12/1 3:13/1");
        x.registerEqual(0, 14, 0b001, 1);
        row("between two ranks", x, 0, "0:10/1 1:11/1 4:14/1 2:12/2 3:13/2");
        x.registerEqual(0, 15, 0b001, 0);
        row("behind all of the rank", x, 0, "0:10/1 1:11/1 4:14/1 5:15/1 2:12/2 3:13/2");
        due("a part of the other one's parcels", x.mortgage(5, 2), 0b001);
    }

    // ---- Postponing ----

    private static MortgageRegister ofThree(int first, int second, int third) {
        MortgageRegister x = ChangesTest.withParcels(900);
        x.register(0, first, 1);
        x.register(0, second, 1);
        x.register(0, third, 1);
        return x;
    }

    private static void postponingConditions() {
        sentence("if its first slot has a lower rank than the last slot of the other one");
        MortgageRegister x = ofThree(40, 5, 39);
        refused("the next rank is behind", 6, x, () -> x.postpone(0, 1, 0));
        refused("two ranks behind", 6, x, () -> x.postpone(0, 2, 0));
        due("one rank ahead", x.postpone(0, 1, 2), 4);
        x.undo();
        due("two ranks ahead", x.postpone(0, 0, 2), 4);
        row("around another one", x, 0, "2:39/1 0:1/1 1:5/2 0:39/3");
        refused("equal ranks, whatever rank its own last slot has", 6, x, () -> x.postpone(0, 0, 2));
        due("its last slot is behind", x.postpone(0, 0, 1), 5);
        row("its first slot decides", x, 0, "2:39/1 1:1/1 1:4/2 0:1/2 0:39/3");
        refused("the other one's last slot has the same rank", 6, x, () -> x.postpone(0, 0, 1));
        x.undo();
        due("the other one's first slot is ahead", x.postpone(0, 1, 0), 5);
        row("the other one's last slot decides", x, 0, "2:39/1 0:1/1 0:5/2 0:34/3 1:5/3");
        refused("then its last slot is not behind", 6, x, () -> x.postpone(0, 1, 0));
    }

    private static void postponingToTheDebt() {
        sentence("where a slot is parted into two of its rank if the debt is reached within it");
        MortgageRegister x = ofThree(40, 5, 40);
        due("reached at the end of a slot", x.postpone(0, 0, 2), 3);
        row("no slot is parted", x, 0, "2:40/1 1:5/2 0:40/3");
        MortgageRegister y = ofThree(40, 5, 41);
        due("one more", y.postpone(0, 0, 2), 4);
        row("the next slot is parted", y, 0, "2:40/1 1:5/2 2:1/3 0:40/3");
        MortgageRegister z = ofThree(40, 5, 39);
        due("one less", z.postpone(0, 0, 2), 4);
        row("the first slot is parted", z, 0, "2:39/1 0:1/1 1:5/2 0:39/3");
        MortgageRegister w = ofThree(1, 5, 1);
        due("the least debts", w.postpone(0, 0, 2), 3);
        row("they swap", w, 0, "2:1/1 1:5/2 0:1/3");
        MortgageRegister v = ofThree(9999, 1, 1);
        due("the greatest debt", v.postpone(0, 0, 2), 4);
        row("nearly all stays", v, 0, "2:1/1 0:9998/1 1:1/2 0:1/3");
    }

    // ---- Releasing and paying ----

    private static void releasing() {
        sentence("When a mortgage is released from a parcel, its slots there vanish.");
        MortgageRegister x = ChangesTest.withParcels(900, 900);
        x.register(0, 40, 0b11);
        x.register(0, 5, 0b01);
        x.register(0, 41, 0b11);
        x.postpone(0, 0, 2);
        due("the other parcel is left", x.release(2, 0), 1);
        row("both slots of it", x, 0, "1:5/1 0:40/2");
        row("not those elsewhere", x, 1, "0:40/1 2:41/2");
        due("the debt stays", x.account(1), 86);
        refused("the last parcel", 7, x, () -> x.release(2, 1));
        refused("not on it", 3, x, () -> x.release(2, 0));

        sentence("When it is cancelled, it is released from all parcels; its debt counts as cancelled.");
        due("also from its last one", x.cancel(2), 41);
        row("the last parcel", x, 1, "0:40/1");
        due("cancelled", x.account(4), 41);
        due("not lost", x.account(5), 0);
    }

    private static void paying() {
        sentence("its slots lose this, the last one first");
        MortgageRegister x = ofThree(40, 5, 39);
        x.postpone(0, 0, 2);
        due("all but one of the last slot", x.pay(0, 38), 2);
        row("one is left", x, 0, "2:39/1 0:1/1 1:5/2 0:1/3");
        x.undo();
        due("just the last slot", x.pay(0, 39), 1);
        row("it vanishes", x, 0, "2:39/1 0:1/1 1:5/2");
        x.undo();
        due("the whole debt", x.pay(0, 40), 0);
        row("all vanish", x, 0, "2:39/1 1:5/2");
        due("it is gone", x.count(2), 2);
        x.undo();
        refused("one more than the debt", 8, x, () -> x.pay(0, 41));
        due("the least payment", x.pay(0, 1), 39);
        MortgageRegister y = ChangesTest.withParcels(1);
        y.register(0, 9999, 1);
        refused("above all debts", 2, y, () -> y.pay(0, 10000));
        refused("nothing", 2, y, () -> y.pay(0, 0));
        refused("less than nothing", 2, y, () -> y.pay(0, -1));
        due("the greatest payment", y.pay(0, 9999), 0);
        due("paid to it", y.mortgage(0, 3), 9999);
    }

    // ---- Splitting, uniting and joining ----

    private static void splitting() {
        sentence("a new parcel with a part of its worth is made, the worth decreases by this");
        MortgageRegister x = ChangesTest.withParcels(9999, 1, 2);
        refused("nothing", 2, x, () -> x.split(0, 0));
        refused("less than nothing", 2, x, () -> x.split(0, -1));
        refused("all of it", 2, x, () -> x.split(0, 9999));
        refused("more", 2, x, () -> x.split(0, Integer.MAX_VALUE));
        refused("a worth of 1", 2, x, () -> x.split(1, 1));
        due("all but one", x.split(0, 9998), 3);
        due("one is left", x.parcel(0, 0), 1);
        due("the new worth", x.parcel(3, 0), 9998);
        due("a worth of 2", x.split(2, 1), 4);
        row("a row without slots", x, 4, "");

        sentence("the new parcel has a row of like slots");
        MortgageRegister y = withOneBetween();
        y.split(0, 400);
        row("several slots and ranks", y, 2, "3:20/1 1:30/1 1:70/2 0:30/2 2:10/2 0:20/2");
        due("its set", y.mortgage(1, 2), 0b111);
        y.pay(1, 71);
        row("it loses on all parcels", y, 2, "3:20/1 1:29/1 0:30/2 2:10/2 0:20/2");
        y.release(1, 2);
        row("it is a row of its own", y, 0, "3:20/1 1:29/1 0:30/2 2:10/2 0:20/2");
    }

    private static void uniting() {
        sentence("Two parcels can be united if their rows are alike in mortgages, amounts and ranks");
        MortgageRegister x = ChangesTest.withParcels(5, 5, 5, 5, 5);
        x.register(0, 10, 0b00111);
        x.register(0, 20, 0b00011);
        refused("one slot less", 6, x, () -> x.unite(0, 2));
        refused("one slot more", 6, x, () -> x.unite(2, 0));
        refused("slots and none", 6, x, () -> x.unite(0, 3));
        refused("none and slots", 6, x, () -> x.unite(3, 0));
        refused("one slot and none", 6, x, () -> x.unite(2, 3));
        refused("none and one slot", 6, x, () -> x.unite(3, 2));
        due("both without", x.unite(3, 4), 10);
        due("alike", x.unite(1, 0), 10);
        due("the set", x.mortgage(1, 2), 0b00010);
        due("the slots", x.mortgage(1, 4), 1);

        sentence("two parcels without slots are alike");
        MortgageRegister z = ChangesTest.withParcels(5, 5, 5, 5);
        z.register(0, 10, 0b0001);
        z.register(0, 20, 0b0010);
        z.register(0, 30, 0b0111);
        refused("other mortgages", 6, z, () -> z.unite(0, 1));
        z.cancel(0);
        z.cancel(1);
        due("other ones that vanished", z.unite(0, 1), 10);
        z.cancel(2);
        due("all vanished", z.unite(0, 2), 15);
        due("there were none", z.unite(3, 0), 20);

        sentence("a worth above 9999");
        MortgageRegister y = ChangesTest.withParcels(9998, 1, 1);
        due("9999", y.unite(1, 0), 9999);
        refused("10000", 2, y, () -> y.unite(1, 2));
        refused("10000, the other way", 2, y, () -> y.unite(2, 1));
    }

    private static void joining() {
        sentence("lie on the same parcels");
        MortgageRegister x = ChangesTest.withParcels(9, 9, 9);
        x.register(0, 10, 0b011);
        x.register(0, 20, 0b001);
        x.register(0, 30, 0b110);
        refused("fewer", 5, x, () -> x.join(0, 1));
        refused("more", 5, x, () -> x.join(1, 0));
        refused("as many others", 5, x, () -> x.join(0, 2));
        x.release(0, 1);
        due("the same ones then", x.join(0, 1), 30);

        sentence("directly behind one another, those of the other one first");
        MortgageRegister y = ChangesTest.withParcels(9);
        y.register(0, 10, 1);
        y.registerEqual(0, 20, 1, 0);
        y.register(0, 5, 1);
        refused("of one rank, the other way", 6, y, () -> y.join(1, 0));
        refused("one between them", 6, y, () -> y.join(0, 2));
        due("of one rank", y.join(0, 1), 30);
        row("they become one", y, 0, "0:30/1 2:5/2");
        MortgageRegister z = ofThree(40, 5, 39);
        z.postpone(0, 0, 2);
        refused("the other one stands within", 6, z, () -> z.join(0, 1));
        refused("the first one stands within", 6, z, () -> z.join(1, 0));
        due("the first one ends with the last slot", z.pay(0, 39), 1);
        due("then they stand so", z.join(0, 1), 6);
        row("two ranks stay two", z, 0, "2:39/1 0:1/1 0:5/2");
        due("slots ahead of several ones", z.join(2, 0), 45);
        row("those of one rank become one", z, 0, "2:40/1 2:5/2");

        sentence("a debt above 9999");
        MortgageRegister w = ChangesTest.withParcels(9);
        w.register(0, 9998, 1);
        w.register(0, 2, 1);
        refused("10000", 2, w, () -> w.join(0, 1));
        w.pay(1, 1);
        due("9999", w.join(0, 1), 9999);
    }

    // ---- Auctions ----

    private static void auctionPrices() {
        sentence("If it is enough for all slots of a rank, they get their amounts; otherwise each one gets");
        MortgageRegister x = ChangesTest.withParcels(9);
        x.register(0, 100, 1);
        x.register(1, 50, 1);
        x.registerEqual(2, 50, 1, 1);
        // a price, then what the three get, and the surplus
        int[][] prices = {{1, 1, 0, 0, 0}, {99, 99, 0, 0, 0}, {100, 100, 0, 0, 0}, {101, 100, 1, 0, 0},
            {102, 100, 1, 1, 0}, {103, 100, 2, 1, 0}, {199, 100, 50, 49, 0}, {200, 100, 50, 50, 0},
            {201, 100, 50, 50, 1}, {9999, 100, 50, 50, 9799}};
        for (int[] price : prices) {
            int costs = price[0] < 9999 ? 3 : 0;
            for (int m = 0; m < 3; m++) {
                due("proceeds, " + price[0] + " for " + m, x.proceeds(0, price[0] + costs, costs, m), price[1 + m]);
            }
            due("surplus, " + price[0], x.auction(0, price[0] + costs, costs), price[4]);
            for (int m = 0; m < 3; m++) {
                due("paid, " + price[0] + " for " + m, x.mortgage(m, 3), price[1 + m]);
                due("gone, " + price[0] + " with " + m, x.mortgage(m, 1), 0);
            }
            due("lost, " + price[0], x.account(5), Math.max(0, 200 - price[0]));
            due("paid in auctions, " + price[0], x.account(3), Math.min(200, price[0]));
            x.undo();
        }
        due("the costs are all of it", x.auction(0, 3, 3), 0);
        due("all is lost", x.account(5), 200);
    }

    private static void auctionSlots() {
        sentence("Then all slots on the parcel vanish");
        MortgageRegister x = ChangesTest.withParcels(9, 9);
        x.register(0, 30, 0b01);
        x.register(0, 20, 0b01);
        x.cancel(0);
        due("only slots that are there get something", x.auction(0, 100, 0), 80);
        due("the one that was left", x.mortgage(1, 3), 20);
        due("nothing gets anything again", x.auction(0, 100, 0), 100);
        MortgageRegister w = ChangesTest.withParcels(9);
        w.register(0, 30, 1);
        w.registerEqual(0, 20, 1, 0);
        w.cancel(0);
        due("nor does one of the same rank", w.auction(0, 100, 0), 80);
        due("but the one that was left", w.mortgage(1, 3), 20);
        due("nothing more was paid", x.account(3), 20);
        due("a bare parcel", x.auction(1, 7, 2), 5);
        due("its price", x.parcel(1, 4), 7);

        sentence("A parcel that was sold stays, with its worth.");
        due("the worth", x.parcel(0, 0), 9);
        due("a new mortgage", x.register(0, 5, 0b01), 2);
        row("in the first rank", x, 0, "2:5/1");

        sentence("what a mortgage got in all is paid to it on its other parcels");
        MortgageRegister y = ChangesTest.withParcels(900, 900);
        y.register(0, 40, 0b11);
        y.register(0, 5, 0b01);
        y.register(0, 39, 0b11);
        y.postpone(0, 0, 2);
        row("two slots", y, 0, "2:39/1 0:1/1 1:5/2 0:39/3");
        due("both get something", y.auction(0, 46, 0), 0);
        due("of both", y.mortgage(0, 3), 2);
        row("that remains", y, 1, "0:38/1");
        due("the other one is paid in full", y.mortgage(2, 1), 0);
    }

    private static void auctionElsewhere() {
        sentence("What remains of the debt of a mortgage that lies on no parcel then counts as lost.");
        MortgageRegister x = ChangesTest.withParcels(9, 9);
        x.register(0, 10, 0b01);
        x.register(1, 20, 0b11);
        x.auction(0, 4, 0);
        due("that of one that lies nowhere", x.account(5), 6);
        due("not that of one that lies elsewhere", x.mortgage(1, 1), 20);
        due("it lies there", x.mortgage(1, 2), 0b10);
        due("one that got nothing", x.mortgage(1, 3), 0);
        x.auction(1, 19, 0);
        due("one is missing", x.account(5), 7);
        due("all debts", x.account(1), 0);
    }

    // ---- Cover ----

    private static void cover() {
        sentence("the amounts of all slots whose rank is at most that of its last slot there");
        MortgageRegister x = ofThree(40, 5, 39);
        x.postpone(0, 0, 2);
        x.registerEqual(1, 16, 1, 1);
        row("the row", x, 0, "2:39/1 0:1/1 1:5/2 3:16/2 0:39/3");
        due("those behind it of its rank too", x.surePrice(0, 0, 2), 40);
        due("the rank in the middle", x.surePrice(0, 0, 1), 61);
        due("its last slot, not its first", x.surePrice(0, 0, 0), 100);
        due("the cover", x.coverBits(0, 1), Float.floatToIntBits(61f / 900f));

        sentence("both as floats");
        MortgageRegister y = ChangesTest.withParcels(9998, 9999);
        y.register(0, 1, 0b10);
        y.register(0, 9997, 0b11);
        due("9997/9998 and 9998/9999 are one float", y.coverBits(0, 1), y.coverBits(1, 1));
        due("so the lowest parcel is the heaviest", y.heaviest(1), 0);
    }

    // ---- Details ----

    private static void details() {
        sentence("The price of the latest auction is 0 for the new parcel of a split");
        MortgageRegister x = ChangesTest.withParcels(10, 10, 10);
        x.auction(0, 7, 0);
        x.split(0, 5);
        due("the new one", x.parcel(3, 4), 0);
        due("the other one", x.parcel(0, 4), 7);

        sentence("and stays that of the first parcel when two are united");
        x.unite(1, 0);
        due("the first one had none", x.parcel(1, 4), 0);
        x.auction(1, 8, 0);
        x.unite(1, 2);
        due("the other one had none", x.parcel(1, 4), 8);

        sentence("refused for the reason 2 if the sum is too great, otherwise for 3");
        MortgageRegister y = ChangesTest.withParcels(4999, 5000);
        y.register(0, 4999, 0b01);
        y.register(0, 5000, 0b01);
        refused("a parcel, 9998", 3, y, () -> y.unite(0, 0));
        refused("a parcel, 10000", 2, y, () -> y.unite(1, 1));
        refused("a mortgage, 9998", 3, y, () -> y.join(0, 0));
        refused("a mortgage, 10000", 2, y, () -> y.join(1, 1));

        sentence("what was paid to the one that joins stays with that one");
        MortgageRegister z = ChangesTest.withParcels(9);
        z.register(0, 10, 1);
        z.register(0, 20, 1);
        z.pay(0, 3);
        z.pay(1, 4);
        z.join(0, 1);
        due("the one that joins", z.mortgage(1, 3), 4);
        due("the one that stays", z.mortgage(0, 3), 3);
        z.pay(0, 23);
        due("also when the rest is paid", z.mortgage(0, 3), 26);
        due("still", z.mortgage(1, 3), 4);
    }
}
