/**
 * "An entry is refused for the first of these reasons": for each change, all pairs of its reasons that can hold at
 * once, as a call and as a text.
 */
public final class ReasonsTest {
    private static final Check CHECK = new Check("ReasonsTest");

    private ReasonsTest() {
    }

    public static void main(String[] args) {
        addParcel();
        register();
        registerEqual();
        postpone();
        releaseAndPay();
        splitAndUnite();
        join();
        auction();
        firstEntryThatIsRefused();
        CHECK.end();
    }

    /**
     * Parcel 0, worth 9000: 0:6000/1 3:10/1 1:5000/2 2:30/3; parcel 1, worth 2000: 1:5000/1; parcel 2 is gone;
     * parcel 3, worth 10, is bare. Mortgage 4 is gone, and only mortgage 2 has creditor 1. Parcels 0 and 1 are unlike
     * and too great to be united; mortgages 0 and 1 are too great to be joined.
     */
    private static MortgageRegister example() {
        MortgageRegister x = new MortgageRegister();
        x.addParcel(9000);
        x.addParcel(1000);
        x.addParcel(1000);
        x.unite(1, 2);
        x.addParcel(10);
        x.register(0, 6000, 0b0001);
        x.register(0, 5000, 0b0011);
        x.register(1, 30, 0b0001);
        x.registerEqual(0, 10, 0b0001, 0);
        x.register(0, 70, 0b0010);
        x.cancel(4);
        CHECK.due("the example's row 0", Dump.row(x, 0), "0:6000/1 3:10/1 1:5000/2 2:30/3");
        CHECK.due("the example's row 1", Dump.row(x, 1), "1:5000/1");
        return x;
    }

    /** The same with as many parcels and mortgages as are kept. */
    private static MortgageRegister full() {
        MortgageRegister x = example();
        for (int p = 4; p < 8; p++) {
            x.addParcel(5);
        }
        for (int m = 5; m < 12; m++) {
            x.register(0, 1, 0b10000);
        }
        return x;
    }

    private static void refused(int reason, int next, MortgageRegister x, String text, Check.Call call) {
        String what = text + " for " + reason + ", not " + next;
        CHECK.refused(what, reason, x, call);
        refused(reason, x, text);
    }

    private static void refused(int reason, MortgageRegister x, String text) {
        String before = Dump.ofRegister(x);
        for (int i = 0; i < text.length(); i++) {
            x.append(text.charAt(i));
        }
        CHECK.thrown("the text " + text, UnsupportedOperationException.class, x::run);
        CHECK.due("the text " + text + ", the reason", x.refusal(), reason);
        CHECK.due("the text " + text + ", the register", Dump.ofRegister(x), before);
    }

    private static void addParcel() {
        MortgageRegister x = full();
        refused(2, 4, x, "n0;", () -> x.addParcel(0));
        refused(4, 0, x, "n9999;", () -> x.addParcel(9999));
    }

    private static void register() {
        MortgageRegister x = example();
        refused(1, 2, x, "m6:1@3278;", () -> x.register(6, 1, 0b110001100));
        refused(1, 2, x, "m0:0@2;", () -> x.register(0, 0, 0b100));
        MortgageRegister y = full();
        refused(1, 4, y, "m0:1@2;", () -> y.register(0, 1, 0b100));
        refused(2, 4, y, "m6:1@0;", () -> y.register(6, 1, 1));
        refused(2, 4, y, "m0:0@0;", () -> y.register(0, 0, 1));
        CHECK.refused("no parcel is told, and as many as are kept", 2, y, () -> y.register(0, 1, 0));
        refused(4, 0, y, "m0:1@0;", () -> y.register(0, 1, 1));
    }

    private static void registerEqual() {
        MortgageRegister x = example();
        refused(1, 2, x, "e6:1@2=0;", () -> x.registerEqual(6, 1, 0b100, 0));
        refused(1, 2, x, "e0:0@0=4;", () -> x.registerEqual(0, 0, 1, 4));
        refused(1, 3, x, "e0:1@13=4;", () -> x.registerEqual(0, 1, 0b1010, 4));
        refused(1, 3, x, "e0:1@12=0;", () -> x.registerEqual(0, 1, 0b110, 0));
        refused(2, 3, x, "e6:1@1=0;", () -> x.registerEqual(6, 1, 0b10, 0));
        refused(2, 3, x, "e0:0@01=0;", () -> x.registerEqual(0, 0, 0b11, 0));
        CHECK.refused("none such, and no parcel is told", 1, x, () -> x.registerEqual(0, 1, 0, 12));
        CHECK.refused("no parcel is told", 2, x, () -> x.registerEqual(0, 1, 0, 0));
        MortgageRegister y = full();
        refused(1, 4, y, "e0:1@0=4;", () -> y.registerEqual(0, 1, 1, 4));
        refused(2, 4, y, "e0:0@0=0;", () -> y.registerEqual(0, 0, 1, 0));
        refused(3, 4, y, "e0:1@1=0;", () -> y.registerEqual(0, 1, 0b10, 0));
        refused(4, 0, y, "e0:1@0=0;", () -> y.registerEqual(0, 1, 1, 0));
    }

    private static void postpone() {
        MortgageRegister x = example();
        refused(1, 3, x, "p0:4<4;", () -> x.postpone(0, 4, 4));
        refused(1, 3, x, "p2:0<0;", () -> x.postpone(2, 0, 0));
        refused(1, 3, x, "p1:4<0;", () -> x.postpone(1, 0, 4));
        refused(1, 3, x, "p1:0<4;", () -> x.postpone(1, 4, 0));
        refused(3, 6, x, "p0:2<2;", () -> x.postpone(0, 2, 2));
        refused(3, 6, x, "p3:0<2;", () -> x.postpone(3, 2, 0));
        refused(6, 0, x, "p0:0<2;", () -> x.postpone(0, 2, 0));
    }

    private static void releaseAndPay() {
        MortgageRegister x = example();
        refused(1, 3, x, "r4@0;", () -> x.release(4, 0));
        refused(1, 3, x, "r0@2;", () -> x.release(0, 2));
        refused(3, 7, x, "r0@1;", () -> x.release(0, 1));
        refused(7, 0, x, "r0@0;", () -> x.release(0, 0));
        refused(1, 2, x, "y4:0;", () -> x.pay(4, 0));
        refused(1, 2, x, "y99:0000;", () -> x.pay(99, 0));
        refused(1, 8, x, "y4:1;", () -> x.pay(4, 1));
        CHECK.refused("y of 10000", 2, x, () -> x.pay(0, 10000));
        CHECK.refused("y of none, 10000", 1, x, () -> x.pay(5, 10000));
        refused(8, 0, x, "y0:6001;", () -> x.pay(0, 6001));
        refused(1, 0, x, "c4;", () -> x.cancel(4));
    }

    private static void splitAndUnite() {
        MortgageRegister x = example();
        refused(1, 2, x, "s2:0;", () -> x.split(2, 0));
        refused(1, 2, x, "s4:9999;", () -> x.split(4, 9999));
        refused(1, 2, x, "u4+4;", () -> x.unite(4, 4));
        refused(1, 3, x, "u2+2;", () -> x.unite(2, 2));
        refused(1, 6, x, "u0+2;", () -> x.unite(0, 2));
        refused(1, 6, x, "u2+0;", () -> x.unite(2, 0));
        refused(2, 3, x, "u0+0;", () -> x.unite(0, 0));
        refused(2, 6, x, "u0+1;", () -> x.unite(0, 1));
        refused(3, 0, x, "u1+1;", () -> x.unite(1, 1));
        refused(6, 0, x, "u1+3;", () -> x.unite(1, 3));
        MortgageRegister y = full();
        refused(1, 4, y, "s2:1;", () -> y.split(2, 1));
        refused(2, 4, y, "s0:9000;", () -> y.split(0, 9000));
        refused(2, 4, y, "s0:0;", () -> y.split(0, 0));
        refused(4, 0, y, "s0:8999;", () -> y.split(0, 8999));
    }

    private static void join() {
        MortgageRegister x = example();
        refused(1, 3, x, "j4+4;", () -> x.join(4, 4));
        refused(1, 3, x, "j99+99;", () -> x.join(99, 99));
        refused(1, 5, x, "j2+4;", () -> x.join(2, 4));
        refused(1, 5, x, "j4+2;", () -> x.join(4, 2));
        refused(2, 3, x, "j1+1;", () -> x.join(1, 1));
        refused(2, 5, x, "j0+1;", () -> x.join(0, 1));
        refused(3, 0, x, "j2+2;", () -> x.join(2, 2));
        refused(5, 6, x, "j2+3;", () -> x.join(2, 3));
        refused(5, 6, x, "j1+3;", () -> x.join(1, 3));
        x.release(1, 1);
        refused(2, 6, x, "j1+0;", () -> x.join(1, 0));
        refused(6, 0, x, "j3+0;", () -> x.join(3, 0));
    }

    private static void auction() {
        MortgageRegister x = example();
        refused(1, 2, x, "a2:0,0;", () -> x.auction(2, 0, 0));
        refused(1, 8, x, "a2:1,2;", () -> x.auction(2, 1, 2));
        refused(2, 8, x, "a0:0,1;", () -> x.auction(0, 0, 1));
        CHECK.refused("costs of 10000", 2, x, () -> x.auction(0, 9999, 10000));
        CHECK.refused("costs below 0", 2, x, () -> x.auction(0, 9999, -1));
        CHECK.refused("a price and costs of 10000", 2, x, () -> x.auction(0, 10000, 10000));
        refused(8, 0, x, "a0:9998,9999;", () -> x.auction(0, 9998, 9999));
    }

    // The reason is that of the first entry that is refused, behind those ahead of it, whatever comes behind.
    private static void firstEntryThatIsRefused() {
        refused(2, example(), "n0;c4;");
        refused(1, example(), "c4;n0;");
        refused(8, example(), "y0:5999;y0:2;c4;");
        refused(1, example(), "y0:6000;y0:1;");
        refused(1, example(), "u0+2;n0;");
        refused(3, example(), "u3+3;u2+2;");
        refused(4, example(), "n5;n5;n5;n5;n5;n0;");
        refused(6, example(), "c0;c3;u1+3;u2+2;");
    }
}
