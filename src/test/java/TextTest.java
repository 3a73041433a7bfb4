/** Promises 13 to 16: the text buffer, texts, fault positions and reasons. */
public final class TextTest {
    private static final Check CHECK = new Check("TextTest");

    private TextTest() {
    }

    public static void main(String[] args) {
        append();
        appendRefused();
        appendToTheLastCharacter();
        everyEntry();
        order();
        manyEntries();
        entriesBesideOthers();
        digits();
        mostDigits();
        faults();
        faultsAtEachPlace();
        faultsBehindLongerTexts();
        faultsLeaveAllElse();
        refusedEntries();
        allOrNone();
        oneChange();
        refusal();
        CHECK.end();
    }

    private static void appendAll(MortgageRegister x, String text) {
        for (int i = 0; i < text.length(); i++) {
            x.append(text.charAt(i));
        }
    }

    private static int run(MortgageRegister x, String text) {
        appendAll(x, text);
        return x.run();
    }

    private static void fault(String text, int position) {
        MortgageRegister x = new MortgageRegister();
        x.addParcel(100);
        appendAll(x, text);
        CHECK.thrown("14: \"" + text + "\"", IllegalArgumentException.class, x::run);
        CHECK.due("15: \"" + text + "\"", x.faultPosition(), position);
        CHECK.due("14: the buffer is empty behind \"" + text + "\"", x.count(6), 0);
        CHECK.due("14: nothing of \"" + text + "\" is carried out", x.count(1), 1);
    }

    // Promise 13
    private static void append() {
        MortgageRegister x = new MortgageRegister();
        CHECK.due("13: four characters", x.append('n' << 24 | '1' << 16 | '2' << 8 | '3'), 4);
        CHECK.due("13: bytes that are 0 are left out", x.append('4' << 24 | ';' << 8), 6);
        CHECK.due("13: one character", x.append('n'), 7);
        CHECK.due("13: from the highest", x.append('5' << 16 | ';'), 9);
        CHECK.due("13: the text", x.run(), 2);
        CHECK.due("13: the first number", x.parcel(0, 0), 1234);
        CHECK.due("13: the second number", x.parcel(1, 0), 5);
        CHECK.due("13: the least and the greatest byte", x.append(' ' << 8 | '~'), 2);
    }

    private static void appendRefused() {
        MortgageRegister x = new MortgageRegister();
        int[] wrong = {0, 31, 127, 128, 255, -1, 'n' << 24 | 31, 31 << 24 | 'n', 'n' << 16 | 10 << 8 | 'n', 200 << 24};
        for (int packed : wrong) {
            CHECK.thrown("13: " + packed, IllegalArgumentException.class, x, () -> x.append(packed));
        }
        for (int i = 1; i <= 58; i++) {
            CHECK.due("13: length " + i, x.append('n' << 8 * (i % 4)), i);
        }
        CHECK.thrown("13: three too many", IllegalStateException.class, x, () -> x.append('n' << 16 | 'n' << 8 | 'n'));
        CHECK.due("13: to the end", x.append('n' << 24 | 'n'), 60);
        CHECK.thrown("13: one too many", IllegalStateException.class, x, () -> x.append('n'));
        CHECK.thrown("13: first wrong, then too many", IllegalArgumentException.class, x, () -> x.append(31));
    }

    // A byte of each place counts one character, be its bits even or odd.
    private static void appendToTheLastCharacter() {
        int[] one = {' ', '!', '}', '~', ' ' << 8, '!' << 8, '}' << 8, '~' << 8, ' ' << 16, '!' << 16, '}' << 16,
            '~' << 16, ' ' << 24, '!' << 24, '}' << 24, '~' << 24};
        for (int packed : one) {
            MortgageRegister x = withCharacters(59);
            CHECK.due("13: one for the last place, " + packed, x.append(packed), 60);
            CHECK.thrown("13: one behind the last place, " + packed, IllegalStateException.class, x,
                () -> x.append(packed));
        }
        int[] two = {' ' << 8 | '~', '!' << 16 | '@', '@' << 24 | '!', '}' << 16 | ' ' << 8, ' ' << 24 | '~' << 8};
        for (int packed : two) {
            MortgageRegister x = withCharacters(59);
            CHECK.thrown("13: two for the last place, " + packed, IllegalStateException.class, x,
                () -> x.append(packed));
            MortgageRegister y = withCharacters(58);
            CHECK.due("13: two for two places, " + packed, y.append(packed), 60);
        }
        int four = 'n' << 24 | '1' << 16 | ';' << 8 | 'c';
        MortgageRegister z = withCharacters(57);
        CHECK.thrown("13: four for three places", IllegalStateException.class, z, () -> z.append(four));
        CHECK.due("13: four for four places", withCharacters(56).append(four), 60);
        CHECK.due("13: four for an empty buffer", withCharacters(0).append(four), 4);
    }

    private static MortgageRegister withCharacters(int count) {
        MortgageRegister x = new MortgageRegister();
        appendAll(x, "x".repeat(count));
        CHECK.due("13: " + count + " characters", x.count(6), count);
        return x;
    }

    // Promise 14
    private static void everyEntry() {
        MortgageRegister x = new MortgageRegister();
        MortgageRegister y = new MortgageRegister();
        CHECK.due("14: n and m", run(x, "n500;n300;m0:200@10;m1:150@0;"), 4);
        y.addParcel(500);
        y.addParcel(300);
        y.register(0, 200, 3);
        y.register(1, 150, 1);
        CHECK.due("14: then", Dump.ofRegister(x).replace(" 4 0", ""), Dump.ofRegister(y).replace(" 4 0", ""));
        CHECK.due("14: e", run(x, "e2:50@0=0;"), 1);
        y.registerEqual(2, 50, 1, 0);
        same("14: behind e", x, y);
        CHECK.due("14: p", run(x, "p0:1<0;"), 1);
        y.postpone(0, 0, 1);
        same("14: behind p", x, y);
        CHECK.due("14: r", run(x, "r0@1;"), 1);
        y.release(0, 1);
        same("14: behind r", x, y);
        CHECK.due("14: y", run(x, "y1:20;"), 1);
        y.pay(1, 20);
        same("14: behind y", x, y);
        CHECK.due("14: s", run(x, "s0:200;"), 1);
        y.split(0, 200);
        same("14: behind s", x, y);
        CHECK.due("14: u", run(x, "u2+0;"), 1);
        y.unite(2, 0);
        same("14: behind u", x, y);
        CHECK.due("14: m, m and j", run(x, "m4:5@1;m4:6@1;j3+4;"), 3);
        y.register(4, 5, 2);
        y.register(4, 6, 2);
        y.join(3, 4);
        same("14: behind j", x, y);
        CHECK.due("14: c", run(x, "c2;"), 1);
        y.cancel(2);
        same("14: behind c", x, y);
        CHECK.due("14: a", run(x, "a2:90,15;"), 1);
        y.auction(2, 90, 15);
        same("14: behind a", x, y);
    }

    private static void same(String what, MortgageRegister x, MortgageRegister y) {
        CHECK.due(what, Dump.ofRegister(x), Dump.ofRegister(y));
    }

    private static void order() {
        MortgageRegister x = new MortgageRegister();
        run(x, "n100;n200;m0:10@0;m1:20@0;");
        run(x, "p0:1<0;");
        CHECK.due("14: the second one of p steps back", Dump.row(x, 0), "1:10/1 1:10/2 0:10/2");
        run(x, "m0:9@1;m0:8@1;j2+3;");
        CHECK.due("14: the second one of j joins", Dump.row(x, 1), "2:9/1 2:8/2");
        MortgageRegister y = new MortgageRegister();
        run(y, "n100;n200;u1+0;");
        CHECK.due("14: the first one of u stays", y.parcel(1, 0), 300);
    }

    private static void manyEntries() {
        MortgageRegister x = new MortgageRegister();
        run(x, "n9;m0:99@0;");
        CHECK.due("14: twelve entries", run(x, "y0:1;y0:1;y0:1;y0:1;y0:1;y0:1;y0:1;y0:1;y0:1;y0:1;y0:1;y0:1;"), 12);
        CHECK.due("14: all were carried out", x.mortgage(0, 1), 87);
        for (int m = 1; m < 12; m++) {
            x.register(0, 1, 1);
        }
        CHECK.due("14: nine entries", run(x, "c1;c2;c3;c4;c5;c6;c7;c8;c09;"), 9);
        CHECK.due("14: the last one was carried out", x.mortgage(9, 1), 0);
        CHECK.thrown("14: twenty entries, of which the eighth is refused", UnsupportedOperationException.class,
            () -> run(x, "n1;".repeat(20)));
        CHECK.due("16: by its reason", x.refusal(), 4);
        CHECK.thrown("14: twenty entries, the last one with a fault", IllegalArgumentException.class,
            () -> run(x, "n1;".repeat(19) + "n1:"));
        CHECK.due("15: at the end", x.faultPosition(), 59);
    }

    // What an entry tells is its own, whatever stands ahead of it or behind it.
    private static void entriesBesideOthers() {
        MortgageRegister x = new MortgageRegister();
        CHECK.due("14: e ahead of another entry", run(x, "n90;m0:1@0;m1:2@0;e2:3@0=0;y1:1;"), 5);
        CHECK.due("14: e has its own other mortgage", Dump.row(x, 0), "0:1/1 2:3/1 1:1/2");
        CHECK.due("14: e, a and n", run(x, "e3:4@0=1;a0:5,0;n7;"), 3);
        CHECK.due("14: e was carried out ahead of a", x.mortgage(3, 0), 3);
        CHECK.due("14: a behind e", x.account(5), 1 + 4 - 1);
        CHECK.due("14: n behind a", x.parcel(1, 0), 7);
    }

    private static void mostDigits() {
        MortgageRegister x = new MortgageRegister();
        CHECK.due("14: a worth of four digits", run(x, "n9999;n0001;n1;n1;n1;n1;n1;n1;"), 8);
        CHECK.due("14: eight parcels", run(x, "m5:9999@01234567;"), 1);
        CHECK.due("14: they are all", x.mortgage(0, 2), 255);
        CHECK.due("14: one parcel, told eight times", run(x, "m5:0001@77777777;"), 1);
        CHECK.due("14: it counts once", x.mortgage(1, 4), 1);
        CHECK.due("14: equal rank", run(x, "e0:9998@76543210=00;"), 1);
        for (int m = 3; m < 12; m++) {
            x.register(0, 3, 1);
        }
        CHECK.due("14: two digits in each place", run(x, "p0:11<10;r00@7;"), 2);
        CHECK.due("14: the last one stepped ahead", x.rank(0, 11, true) - x.rank(0, 10, false), -1);
        CHECK.due("14: two mortgages of two digits", run(x, "j11+10;"), 1);
        CHECK.due("14: they are one", x.mortgage(11, 1), 6);
        CHECK.due("14: a price of four digits and costs of 0", run(x, "a0:9999,0000;"), 1);
        CHECK.due("14: the price", x.parcel(0, 4), 9999);
        CHECK.due("14: costs as great as the price", run(x, "a1:0009,9;"), 1);
        CHECK.due("14: a new parcel out of four digits is refused", refusalOf(x, "s0:0001;"), 4);
        CHECK.due("14: creditor 9 is refused", refusalOf(x, "m9:1@7;"), 2);
        CHECK.due("14: parcel 8 is refused", refusalOf(x, "m0:1@78;"), 1);
        CHECK.due("14: parcel 9 is refused", refusalOf(x, "a9:1,0;"), 1);
        CHECK.due("14: mortgage 12 is refused", refusalOf(x, "c12;"), 1);
        CHECK.due("14: mortgage 99 is refused", refusalOf(x, "y99:1;"), 1);
    }

    private static int refusalOf(MortgageRegister x, String text) {
        CHECK.thrown("14: " + text, UnsupportedOperationException.class, () -> run(x, text));
        CHECK.due("15: no fault in " + text, x.faultPosition(), -1);
        return x.refusal();
    }

    private static void digits() {
        MortgageRegister x = new MortgageRegister();
        CHECK.due("14: numbers may begin with 0", run(x, "n0007;n01;n9999;"), 3);
        CHECK.due("14: the number", x.parcel(0, 0), 7);
        CHECK.due("14: told twice counts once", run(x, "m0:09@20020020;"), 1);
        CHECK.due("14: the set", x.mortgage(0, 2), 0b101);
        CHECK.due("14: the amount", x.mortgage(0, 1), 9);
        CHECK.due("14: a mortgage of two digits", run(x, "y00:1;"), 1);
        for (int m = 1; m < 12; m++) {
            x.register(0, 10, 1);
        }
        CHECK.due("14: mortgage 11", run(x, "c11;y10:3;"), 2);
        CHECK.due("14: it was cancelled", x.mortgage(11, 1), 0);
        CHECK.due("14: and paid", x.mortgage(10, 1), 7);
    }

    // Promise 15
    private static void faults() {
        CHECK.due("15: run has not been called", new MortgageRegister().faultPosition(), -1);
        fault("", 0);
        fault("x", 0);
        fault("N1;", 0);
        fault(" n1;", 0);
        fault(";", 0);
        fault("n", 1);
        fault("n;", 1);
        fault("n1", 2);
        fault("n1 ;", 2);
        fault("n1234", 5);
        fault("n12345;", 5);
        fault("n1;;", 3);
        fault("n1;n", 4);
        fault("n1;x", 3);
        fault("m", 1);
        fault("m12:", 2);
        fault("m1:;", 3);
        fault("m1:12345@", 7);
        fault("m1:1;", 4);
        fault("m1:1@;", 5);
        fault("m1:1@123456789;", 13);
        fault("m1:1@12345678", 13);
        fault("m1:1@0=0;", 6);
        fault("e1:1@0;", 6);
        fault("e1:1@0=;", 7);
        fault("e1:1@0=123;", 9);
        fault("p00:1<2;", 2);
        fault("p0:123<2;", 5);
        fault("p0:1>2;", 4);
        fault("p0:1<;", 5);
        fault("p0:1<234;", 7);
        fault("r123@0;", 3);
        fault("r1@00;", 4);
        fault("r@0;", 1);
        fault("c;", 1);
        fault("c123;", 3);
        fault("c1+2;", 2);
        fault("y1:;", 3);
        fault("y1:12345;", 7);
        fault("s1:12345;", 7);
        fault("s01:1;", 2);
        fault("u1+;", 3);
        fault("u1+00;", 4);
        fault("u01+0;", 2);
        fault("j1;", 2);
        fault("j1+;", 3);
        fault("j123+1;", 3);
        fault("j1+123;", 5);
        fault("a0:1;", 4);
        fault("a0:1,;", 5);
        fault("a0:12345,1;", 7);
        fault("a0:1,12345;", 9);
        fault("a0:1,1", 6);
        fault("n7;m0:5@0;c9;n", 14);
        // Entries ahead of the fault would be refused, but the fault comes first.
        fault("n0;c9;c", 7);
    }

    // Where each entry is cut off, or goes on with what no entry has there.
    private static void faultsAtEachPlace() {
        String[] entries = {"n1;", "m1:2@3;", "e1:2@3=4;", "p1:2<3;", "r1@2;", "c1;", "y1:2;", "s1:2;", "u1+2;",
            "j1+2;", "a1:2,3;"};
        for (String entry : entries) {
            for (int i = 0; i < entry.length(); i++) {
                fault(entry.substring(0, i), i);
                fault(entry + "c2;" + entry.substring(0, i) + (i == 0 ? ";" : ""), entry.length() + 3 + i);
                for (char sign : " !/x~".toCharArray()) {
                    fault(entry.substring(0, i) + sign + entry.substring(i), i);
                }
            }
            fault(entry + ";", entry.length());
            fault(entry + " ", entry.length());
        }
        fault("n/;", 1);
        fault("n:;", 1);
        fault("c9:;", 2);
        fault("c9/;", 2);
        fault("m/:1@0;", 1);
        fault("m::1@0;", 1);
        fault("m1:1@0:;", 6);
        fault("m1:1@0123456789;", 13);
        fault("m1:1@000000000;", 13);
        fault("m01:1@0;", 2);
        fault("e01:1@0=1;", 2);
        fault("a01:1,0;", 2);
        fault("n00001;", 5);
        fault("y000:1;", 3);
    }

    // What an earlier text had further on is no part of a text.
    private static void faultsBehindLongerTexts() {
        MortgageRegister x = new MortgageRegister();
        CHECK.due("14: a text", run(x, "n1;n2;n34;"), 3);
        String[] shorter = {"n1", "n1;n", "n1;n2", "n1;n2;n", "n1;n2;n3", "n1;n2;n34", ""};
        for (String text : shorter) {
            CHECK.thrown("14: then \"" + text + '"', IllegalArgumentException.class, () -> run(x, text));
            CHECK.due("15: then \"" + text + '"', x.faultPosition(), text.length());
        }
        CHECK.due("14: nothing of them was carried out", x.count(1), 3);
        CHECK.thrown("14: 60 characters", IllegalArgumentException.class, () -> run(x, "n1;".repeat(19) + "n12"));
        CHECK.due("15: end too early", x.faultPosition(), 60);
        CHECK.due("14: fewer again", run(x, "n5;"), 1);
    }

    private static void faultsLeaveAllElse() {
        MortgageRegister x = new MortgageRegister();
        CHECK.thrown("14: an entry is refused", UnsupportedOperationException.class, () -> run(x, "n0;"));
        CHECK.due("15: which is no fault", x.faultPosition(), -1);
        CHECK.thrown("14: a fault", IllegalArgumentException.class, () -> run(x, "n1;n"));
        CHECK.due("16: the reason stays", x.refusal(), 2);
        CHECK.due("15: the fault", x.faultPosition(), 4);
        x.addParcel(10);
        x.save();
        x.restore();
        CHECK.due("15: the fault stays", x.faultPosition(), 4);
        appendAll(x, "n2;");
        CHECK.due("15: until the next run", x.faultPosition(), 4);
        x.run();
        CHECK.due("15: then there is none", x.faultPosition(), -1);
        x.undo();
        CHECK.due("15: also behind undo", x.faultPosition(), -1);
        appendAll(x, "n3");
        CHECK.thrown("36: nothing is left", IllegalStateException.class, x, x::undo);
        CHECK.due("13: the buffer stays", x.count(6), 2);
        CHECK.due("13: and goes on", x.append(';'), 3);
        CHECK.due("14: as one text", x.run(), 1);
    }

    private static void refusedEntries() {
        refusedFor(1, "r0@9;");
        refusedFor(1, "m0:1@9;");
        refusedFor(1, "m9:0@8;");
        refusedFor(1, "c99;");
        refusedFor(1, "p9:0<1;");
        refusedFor(1, "u0+2;");
        refusedFor(1, "e0:1@0=12;");
        refusedFor(2, "m6:1@0;");
        refusedFor(2, "m0:0@0;");
        refusedFor(2, "n0000;");
        refusedFor(2, "s0:100;");
        refusedFor(2, "a0:0,0;");
        refusedFor(3, "e0:1@01=1;");
        refusedFor(3, "p0:0<0;");
        refusedFor(3, "j0+0;");
        refusedFor(3, "u1+1;");
        refusedFor(3, "r1@1;");
        refusedFor(4, "n1;n1;n1;n1;n1;n1;n1;");
        refusedFor(5, "j0+1;");
        refusedFor(6, "p0:0<1;");
        refusedFor(6, "u0+1;");
        refusedFor(7, "r0@0;");
        refusedFor(8, "y0:31;");
        refusedFor(8, "a0:1,2;");
        refusedFor(1, "c0;c0;");
        refusedFor(7, "m2:1@01;r2@0;r2@1;");
    }

    private static void refusedFor(int reason, String text) {
        MortgageRegister x = new MortgageRegister();
        x.addParcel(100);
        x.addParcel(200);
        x.register(0, 30, 1);
        x.register(1, 40, 1);
        appendAll(x, text);
        String before = Dump.ofRegister(x);
        CHECK.thrown("14: " + text, UnsupportedOperationException.class, x::run);
        CHECK.due("16: " + text, x.refusal(), reason);
        CHECK.due("15: " + text, x.faultPosition(), -1);
        CHECK.due("14: the buffer behind " + text, x.count(6), 0);
        CHECK.due("14: the register behind " + text, Dump.ofRegister(x), before);
        CHECK.due("14: the changes behind " + text, x.count(5), 4);
    }

    private static void allOrNone() {
        MortgageRegister x = new MortgageRegister();
        run(x, "n100;n200;m0:30@01;m1:40@0;m2:50@01;");
        x.save();
        for (int i = 0; i < 7; i++) {
            x.pay(1, 1);
        }
        String before = Dump.ofAllButReason(x);
        String[] texts = {"p0:1<0;y2:7;c0;a1:50,4;c0;", "s0:50;u2+0;e5:7@1=0;c12;", "n1;n2;n3;n4;n5;n6;n7;", "m0:1@1;r0@1;r0@0;"};
        for (String text : texts) {
            CHECK.thrown("14: none of " + text, UnsupportedOperationException.class, () -> run(x, text));
            CHECK.due("14: the state behind " + text, Dump.ofAllButReason(x), before);
        }
        for (int i = 7; i >= 0; i--) {
            CHECK.due("14: all kept changes stay", x.undo(), i);
        }
        CHECK.due("36: at the first", x.count(1), 0);
    }

    private static void oneChange() {
        MortgageRegister x = new MortgageRegister();
        CHECK.due("14: two entries", run(x, "n100;n200;"), 2);
        CHECK.due("14: one change", x.count(5), 1);
        x.undo();
        CHECK.due("14: undone as one", x.count(1), 0);
    }

    // Promise 16
    private static void refusal() {
        MortgageRegister x = new MortgageRegister();
        CHECK.thrown("16: nothing was refused", java.util.NoSuchElementException.class, x, x::refusal);
        x.addParcel(10);
        CHECK.thrown("16: still nothing", java.util.NoSuchElementException.class, x, x::refusal);
        CHECK.refused("16: no such mortgage", 1, x, () -> x.cancel(0));
        CHECK.thrown("16: a question", IndexOutOfBoundsException.class, x, () -> x.mortgage(0, 0));
        CHECK.due("16: is none", x.refusal(), 1);
        CHECK.refused("16: the next one", 2, x, () -> x.split(0, 10));
        x.split(0, 5);
        CHECK.due("16: stays behind an answer", x.refusal(), 2);
        x.undo();
        CHECK.due("16: stays behind undo", x.refusal(), 2);
        x.save();
        CHECK.refused("16: another", 3, x, () -> x.unite(0, 0));
        x.restore();
        CHECK.due("16: stays behind restore", x.refusal(), 3);
    }
}
