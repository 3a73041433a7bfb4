import java.util.NoSuchElementException;

/** Tells all that the questions of a register answer, in one text. */
final class Dump {
    private Dump() {
    }

    static String of(MortgageRegister x) {
        int reason;
        try {
            reason = x.refusal();
        } catch (NoSuchElementException e) {
            reason = 0;
        }
        return "reason " + reason + ' ' + ofAllButReason(x);
    }

    static String ofAllButReason(MortgageRegister x) {
        StringBuilder out = new StringBuilder();
        out.append("fault ").append(x.faultPosition());
        out.append(" undo ").append(x.count(5)).append(" text ").append(x.count(6)).append(' ');
        out.append(ofRegister(x));
        for (int d = 0; d < 3; d++) {
            out.append(" drawer ").append(d).append(':');
            for (int place = 0; place < 6; place++) {
                out.append(' ').append(ofPlace(x, d, place));
            }
        }
        return out.toString();
    }

    private static String ofPlace(MortgageRegister x, int drawer, int place) {
        try {
            return x.filed(drawer, place, true) + "=" + x.filed(drawer, place, false);
        } catch (NoSuchElementException e) {
            return "empty";
        } catch (IndexOutOfBoundsException e) {
            return "none";
        }
    }

    /** What belongs to the register, and is undone and restored. */
    static String ofRegister(MortgageRegister x) {
        StringBuilder out = new StringBuilder();
        for (int what = 0; what < 5; what++) {
            out.append(" count ").append(x.count(what));
        }
        for (int p = 0; p < 8; p++) {
            out.append(" parcel ").append(p).append(':').append(ofParcel(x, p));
        }
        for (int m = 0; m < x.count(3); m++) {
            out.append(" mortgage ").append(m).append(':');
            for (int what = 0; what < 5; what++) {
                out.append(' ').append(x.mortgage(m, what));
            }
        }
        for (int what = 0; what < 9; what++) {
            out.append(" account ").append(x.account(what));
        }
        return out.toString();
    }

    private static String ofParcel(MortgageRegister x, int parcel) {
        StringBuilder out = new StringBuilder();
        try {
            for (int what = 0; what < 5; what++) {
                out.append(' ').append(x.parcel(parcel, what));
            }
        } catch (IndexOutOfBoundsException e) {
            return " none";
        }
        return out.append(' ').append(row(x, parcel)).toString();
    }

    /** A row as mortgage:amount/rank, from its first slot to its last one. */
    static String row(MortgageRegister x, int parcel) {
        StringBuilder out = new StringBuilder();
        int slots = x.parcel(parcel, 1);
        for (int i = 0; i < slots; i++) {
            if (i > 0) {
                out.append(' ');
            }
            out.append(x.slot(parcel, i, 0)).append(':').append(x.slot(parcel, i, 1));
            out.append('/').append(x.slot(parcel, i, 2));
        }
        return out.toString();
    }
}
