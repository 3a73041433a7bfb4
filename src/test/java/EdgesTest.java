import java.lang.reflect.Method;
import java.util.ArrayList;
import java.util.Arrays;
import java.util.List;
import java.util.Map;

/** Every method with all combinations of numbers at the edges, in several states, against the model. */
public final class EdgesTest {
    private static final int[] EDGES = {Integer.MIN_VALUE, -1, 0, 1, 2, 3, 5, 6, 8, 12, 9999, 10000, Integer.MAX_VALUE};
    // With those that make its state and compare it at the end, an object comes to fewer than 512 calls.
    private static final int MOST_CALLS = 70;
    private static final String[] STATES = {
        "",
        "addParcel 1; addParcel 9998; addParcel 7; register 0 9 7; register 5 1 7; unite 2 0; register 0 8 4; "
            + "postpone 2 0 1; cancel 2; newDrawer 0 0 1; newDrawer 1 1 6; file 0 0 0 1; file 1 5 1 2; save; pay 0 1",
        "addParcel 9; addParcel 9; addParcel 9; addParcel 9; addParcel 9; addParcel 9; addParcel 9; addParcel 9; "
            + "register 0 2 255; register 0 3 255; register 0 4 255; registerEqual 5 5 255 0; register 1 6 5; "
            + "register 1 7 5; register 1 8 5; register 1 9 5; register 2 1 5; register 2 1 5; register 2 1 5; "
            + "register 2 9 5; postpone 0 0 11; unite 1 3; auction 5 7 1; pay 9 1; append 1848652083",
    };

    private final Check check = new Check("EdgesTest");
    private final Map<String, Method> real = RandomRunsTest.methodsOf(MortgageRegister.class);
    private final Map<String, Method> due = RandomRunsTest.methodsOf(Model.class);
    private MortgageRegister register;
    private Model model;

    public static void main(String[] args) throws ReflectiveOperationException {
        EdgesTest test = new EdgesTest();
        for (String state : STATES) {
            for (String name : test.real.keySet()) {
                test.allOf(state, name);
            }
        }
        test.check.end();
    }

    private void allOf(String state, String name) throws ReflectiveOperationException {
        Class<?>[] types = real.get(name).getParameterTypes();
        int combinations = 1;
        for (Class<?> type : types) {
            combinations *= type == boolean.class ? 2 : EDGES.length;
        }
        int calls = MOST_CALLS;
        for (int i = 0; i < combinations; i++) {
            if (calls == MOST_CALLS) {
                make(state);
                calls = 0;
            }
            calls++;
            Object[] arguments = argumentsOf(types, i);
            String got = RandomRunsTest.answer(real.get(name), register, arguments);
            String want = RandomRunsTest.answer(due.get(name), model, arguments);
            if (!got.equals(want)) {
                check.due(state + "; then " + name + Arrays.toString(arguments), got, want);
            }
            if (register.count(5) != 0 && !want.contains("Exception")) {
                check.due(state + "; the state behind " + name + Arrays.toString(arguments), states(), "alike");
                // What answers may have changed the state, and the next call is for the state as it was told.
                calls = MOST_CALLS;
            }
        }
        check.due(state + "; behind all of " + name, states(), "alike");
    }

    private static Object[] argumentsOf(Class<?>[] types, int combination) {
        Object[] arguments = new Object[types.length];
        int left = combination;
        for (int i = 0; i < types.length; i++) {
            boolean isFlag = types[i] == boolean.class;
            int choices = isFlag ? 2 : EDGES.length;
            if (isFlag) {
                arguments[i] = left % choices == 1;
            } else {
                arguments[i] = EDGES[left % choices];
            }
            left /= choices;
        }
        return arguments;
    }

    private void make(String state) throws ReflectiveOperationException {
        register = new MortgageRegister();
        model = new Model();
        for (String call : state.isEmpty() ? new String[0] : state.split("; ")) {
            String[] words = call.split(" ");
            List<Object> arguments = new ArrayList<>();
            for (int i = 1; i < words.length; i++) {
                arguments.add(Integer.parseInt(words[i]));
            }
            String got = RandomRunsTest.answer(real.get(words[0]), register, arguments.toArray());
            check.due("making " + call, got, RandomRunsTest.answer(due.get(words[0]), model, arguments.toArray()));
            check.isFalse("making " + call + " throws", got.contains("Exception"));
        }
    }

    /** Compares what the plain questions answer. */
    private String states() throws ReflectiveOperationException {
        for (int what = 0; what < 9; what++) {
            if (differs("count", what) || differs("account", what)) {
                return "count or account " + what + " differs";
            }
            for (int i = 0; i < 12; i++) {
                if (differs("parcel", i, what) || differs("mortgage", i, what) || differs("slot", 1, i, what)) {
                    return "number " + what + " of " + i + " differs";
                }
            }
        }
        return differs("refusal") || differs("faultPosition") ? "refusal or faultPosition differs" : "alike";
    }

    private boolean differs(String name, Object... arguments) throws ReflectiveOperationException {
        String got = RandomRunsTest.answer(real.get(name), register, arguments);
        return !got.equals(RandomRunsTest.answer(due.get(name), model, arguments));
    }
}
