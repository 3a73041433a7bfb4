/** Counts the answers that are not the ones that are due, and prints them. */
final class Check {
    interface Call {
        void make();
    }

    private final String test;
    private int made;
    private int wrong;

    Check(String test) {
        this.test = test;
    }

    void due(String what, long got, long want) {
        made++;
        if (got != want) {
            wrong++;
            System.out.println(test + ": " + what + " answered " + got + ", due is " + want);
        }
    }

    void due(String what, String got, String want) {
        made++;
        if (!got.equals(want)) {
            wrong++;
            System.out.println(test + ": " + what + " answered\n  " + got + "\ndue is\n  " + want);
        }
    }

    void isTrue(String what, boolean got) {
        due(what, got ? 1 : 0, 1);
    }

    void isFalse(String what, boolean got) {
        due(what, got ? 1 : 0, 0);
    }

    /** The exception must be of exactly this class: one of a class below it was thrown by the machine. */
    void thrown(String what, Class<? extends RuntimeException> type, Call call) {
        due(what, nameOfThrown(call), type.getName());
    }

    /** A call that throws leaves all else as it was. */
    void thrown(String what, Class<? extends RuntimeException> type, MortgageRegister register, Call call) {
        String before = Dump.of(register);
        thrown(what, type, call);
        due(what + ", then the state", Dump.of(register), before);
    }

    void refused(String what, int reason, MortgageRegister register, Call call) {
        String before = Dump.ofAllButReason(register);
        thrown(what, UnsupportedOperationException.class, call);
        due(what + ", then the reason", register.refusal(), reason);
        due(what + ", then the state", Dump.ofAllButReason(register), before);
    }

    private static String nameOfThrown(Call call) {
        try {
            call.make();
            return "nothing";
        } catch (RuntimeException e) {
            return e.getClass().getName();
        }
    }

    void end() {
        System.out.println(test + ": " + made + " answers, " + wrong + " not as due");
        if (wrong != 0) {
            System.exit(1);
        }
    }
}
