import java.lang.reflect.InvocationTargetException;
import java.lang.reflect.Method;
import java.util.ArrayList;
import java.util.Arrays;
import java.util.List;
import java.util.Map;
import java.util.Random;
import java.util.TreeMap;

/** Random runs of 512 calls: each call must answer, or throw, what the model answers or throws. */
public final class RandomRunsTest {
    private static final int CALLS = 512;
    private static final String[] CHANGES = {
        "register", "registerEqual", "postpone", "postpone", "postpone", "release", "cancel", "pay", "pay", "split",
        "unite", "join", "join", "auction", "addParcel",
    };
    private static final String[] OTHERS = {
        "append", "run", "newDrawer", "file", "file", "file", "filed", "filed", "filed", "copyDrawer", "undo", "save",
        "restore",
    };
    private static final String[] QUESTIONS = {
        "parcel", "slot", "mortgage", "rank", "isAhead", "proceeds", "surePrice", "heaviest", "cover", "coverBits",
        "load", "loadBits", "claims", "account", "count", "faultPosition", "refusal",
    };

    private final Check check = new Check("RandomRunsTest");
    private final Map<String, Integer> seen = new TreeMap<>();
    private final Map<String, Method> real = methodsOf(MortgageRegister.class);
    private final Map<String, Method> due = methodsOf(Model.class);
    private final Random random;
    private final int most;
    private final boolean isWild;
    private final boolean isCalm;
    private final int creditors;
    private final List<String> told = new ArrayList<>();
    private MortgageRegister register;
    private Model model;
    private String text = "";
    private int lastSlot;

    private RandomRunsTest(long seed) {
        random = new Random(seed);
        int kind = random.nextInt(8);
        most = kind == 0 ? 9999 : kind < 3 ? 400 : 30;
        isWild = random.nextInt(6) == 0;
        isCalm = random.nextInt(3) > 0;
        creditors = random.nextInt(3) == 0 ? 1 : 3;
    }

    public static void main(String[] args) throws ReflectiveOperationException {
        int runs = args.length > 0 ? Integer.parseInt(args[0]) : 150;
        Map<String, Integer> all = new TreeMap<>();
        Check check = new Check("RandomRunsTest");
        for (int seed = 0; seed < runs; seed++) {
            RandomRunsTest test = new RandomRunsTest(seed);
            String wrong = test.runOnce();
            check.due("seed " + seed, wrong, "");
            if (!wrong.isEmpty()) {
                check.end();
            }
            test.seen.forEach((key, count) -> all.merge(key, count, Integer::sum));
        }
        requireSeen(check, all, runs);
        if (args.length > 1) {
            all.forEach((key, count) -> System.out.println(key + ' ' + count));
        }
        check.end();
    }

    // Random runs are worth something only if they come to all answers and all reasons.
    private static void requireSeen(Check check, Map<String, Integer> all, int runs) {
        List<String> wanted = new ArrayList<>();
        for (String name : List.of(CHANGES)) {
            wanted.add(name + " answers");
        }
        for (String name : List.of(OTHERS)) {
            wanted.add(name + " answers");
        }
        String[] reasons = {
            "addParcel 24", "register 124", "registerEqual 1234", "postpone 136", "release 137", "cancel 1", "pay 128",
            "split 124", "unite 1236", "join 12356", "auction 128", "run 1234678",
        };
        for (String line : reasons) {
            String[] parts = line.split(" ");
            parts[1].chars().forEach(reason -> wanted.add(parts[0] + " refused " + (char) reason));
        }
        for (String key : wanted) {
            check.isTrue("a run comes to: " + key, runs < 100 || all.getOrDefault(key, 0) > 0);
        }
    }

    static Map<String, Method> methodsOf(Class<?> type) {
        Map<String, Method> methods = new TreeMap<>();
        for (Method method : type.getDeclaredMethods()) {
            if (java.lang.reflect.Modifier.isPublic(method.getModifiers())) {
                methods.put(method.getName(), method);
            }
        }
        return methods;
    }

    private String runOnce() throws ReflectiveOperationException {
        register = new MortgageRegister();
        model = new Model();
        int calls = 0;
        for (int i = random.nextInt(4); i >= 0 && calls < CALLS; i--, calls++) {
            String wrong = call("addParcel", argumentsFor("addParcel"));
            if (!wrong.isEmpty()) {
                return wrong;
            }
        }
        for (int i = 4 + random.nextInt(6); i > 0 && isCalm; i--, calls++) {
            String name = i % 3 == 0 ? "registerEqual" : "register";
            String wrong = call(name, argumentsFor(name));
            if (!wrong.isEmpty()) {
                return wrong;
            }
        }
        while (calls < CALLS) {
            calls++;
            int dice = random.nextInt(100);
            String[] names = dice < 45 ? CHANGES : dice < 75 ? QUESTIONS : OTHERS;
            String name = names[random.nextInt(names.length)];
            boolean isHeavy = List.of("cancel", "auction", "restore", "unite", "split", "release").contains(name);
            if (isHeavy && random.nextInt(isCalm ? 20 : 3) > 0) {
                name = random.nextInt(6) == 0 ? "join" : "postpone";
            }
            // Most texts come to their end, for one that is cut off nearly always has a fault.
            if (name.equals("append") || name.equals("run")) {
                boolean isCut = random.nextInt(6) == 0;
                for (int i = 0; i < 20 && calls < CALLS && (name.equals("append") && i == 0 || !text.isEmpty()) && !isCut; i++) {
                    calls++;
                    String wrong = call("append", argumentsFor("append"));
                    if (!wrong.isEmpty()) {
                        return wrong;
                    }
                }
                name = "run";
            }
            String wrong = call(name, argumentsFor(name));
            if (wrong.isEmpty() && name.equals("run")) {
                wrong = call("faultPosition");
            }
            if (wrong.isEmpty() && calls % 8 == 0) {
                wrong = compareRows();
            }
            if (!wrong.isEmpty()) {
                return wrong;
            }
        }
        return "";
    }

    private String call(String name, Object... arguments) throws ReflectiveOperationException {
        String got = answer(real.get(name), register, arguments);
        String want = answer(due.get(name), model, arguments);
        told.add(name + Arrays.toString(arguments) + " -> " + want);
        String kind = want.contains("Unsupported") ? " refused " + model.refusal() : want.contains("Exception") ? " throws" : " answers";
        seen.merge(name + kind, 1, Integer::sum);
        if (got.equals(want)) {
            return "";
        }
        int first = Math.max(0, told.size() - 100);
        return String.join("\n", told.subList(first, told.size())) + "\nbut answered " + got;
    }

    static String answer(Method method, Object object, Object... arguments) throws ReflectiveOperationException {
        try {
            return method.invoke(object, arguments).toString();
        } catch (InvocationTargetException e) {
            return e.getCause().getClass().getName();
        }
    }

    private String compareRows() throws ReflectiveOperationException {
        for (int p = 0; p < 8; p++) {
            for (int what = 0; what < 5; what++) {
                String wrong = call("parcel", p, what);
                if (!wrong.isEmpty()) {
                    return wrong;
                }
            }
            int slots = p < register.count(1) && isThere(p) ? register.parcel(p, 1) : 0;
            for (int i = 0; i < slots * 3; i++) {
                String wrong = call("slot", p, i / 3, i % 3);
                if (!wrong.isEmpty()) {
                    return wrong;
                }
            }
        }
        for (int i = 0; i < 12 * 5; i++) {
            String wrong = call("mortgage", i / 5, i % 5);
            if (!wrong.isEmpty()) {
                return wrong;
            }
        }
        for (int i = 0; i < 9; i++) {
            String wrong = call("account", i);
            if (!wrong.isEmpty()) {
                return wrong;
            }
        }
        return "";
    }

    private boolean isThere(int parcel) {
        try {
            return register.parcel(parcel, 0) > 0;
        } catch (IndexOutOfBoundsException e) {
            return false;
        }
    }

    private int odd(int usual) {
        int[] numbers = {-1, 0, 1, 5, 6, 7, 8, 9, 11, 12, 13, 9998, 9999, 10000, 1 << 30, -128, 255, 256,
            Integer.MAX_VALUE, Integer.MIN_VALUE};
        boolean isOdd = random.nextInt(isWild ? 4 : 60) == 0;
        return isOdd ? numbers[random.nextInt(numbers.length)] : usual;
    }

    private int number(int bound) {
        return odd(1 + random.nextInt(bound));
    }

    private int aParcel() {
        return odd(random.nextInt(Math.max(1, register.count(1))));
    }

    private int aMortgage() {
        int ever = Math.max(1, register.count(3));
        int pick = random.nextInt(ever);
        for (int i = 0; i < 3 && register.count(2) > 0 && register.mortgage(pick, 1) == 0; i++) {
            pick = random.nextInt(ever);
        }
        return odd(pick);
    }

    /** Mostly the mortgage of a slot of the parcel, at times of the slot behind the one that was asked for last. */
    private int aMortgageOn(int parcel) {
        boolean isBare = parcel < 0 || parcel >= 8 || !isThere(parcel) || register.parcel(parcel, 1) == 0;
        if (isBare || random.nextInt(10) == 0) {
            return aMortgage();
        }
        int slots = register.parcel(parcel, 1);
        lastSlot = random.nextInt(3) == 0 ? (lastSlot + 1) % slots : random.nextInt(slots);
        return odd(register.slot(parcel, lastSlot, 0));
    }

    private int aCreditor() {
        return odd(random.nextInt(random.nextInt(6) == 0 ? 6 : creditors));
    }

    private int aSet() {
        int set = 0;
        boolean isAll = random.nextBoolean();
        for (int p = 0; p < 8; p++) {
            boolean isIn = isAll || random.nextInt(3) > 0;
            set |= isIn && isThere(p) ? 1 << p : 0;
        }
        return odd(set);
    }

    private int aSetOf(int mortgage) {
        boolean isThere = mortgage >= 0 && mortgage < register.count(3) && random.nextInt(5) > 0;
        int set = isThere ? register.mortgage(mortgage, 2) : aSet();
        return odd(random.nextBoolean() ? set : set & random.nextInt(256));
    }

    private int aPayment(int mortgage) {
        boolean isThere = mortgage >= 0 && mortgage < register.count(3);
        int debt = isThere ? register.mortgage(mortgage, 1) : 5;
        int dice = random.nextInt(10);
        return odd(dice == 0 ? debt : dice == 1 ? debt + 1 : 1 + random.nextInt(Math.max(1, debt / 2)));
    }

    private int aCost(int price) {
        boolean isNear = random.nextInt(8) == 0;
        return odd(isNear ? price + random.nextInt(2) : random.nextInt(price > 0 && price < 9999 ? price + 1 : 5));
    }

    private Object[] argumentsFor(String name) {
        int parcel = aParcel();
        int mortgage = random.nextInt(4) == 0 ? aMortgage() : aMortgageOn(parcel);
        int price = number(Math.min(9999, most * 5));
        switch (name) {
            case "addParcel":
                return of(number(random.nextInt(4) == 0 ? 9999 : most));
            case "register":
                return of(aCreditor(), number(most), aSet());
            case "registerEqual":
                return of(aCreditor(), number(most), aSetOf(mortgage), mortgage);
            case "postpone":
                return of(parcel, mortgage, aMortgageOn(parcel));
            case "release":
                return of(mortgage, parcel);
            case "cancel":
            case "heaviest":
                return of(mortgage);
            case "pay":
                return of(mortgage, aPayment(mortgage));
            case "split":
                return of(parcel, number(Math.max(1, most / 3)));
            case "unite":
                return of(parcel, aParcel());
            case "join":
                return of(mortgage, aMortgageOn(parcel));
            case "auction":
                return of(parcel, price, aCost(price));
            case "append":
                return of(random.nextInt(20) == 0 ? odd(random.nextInt()) : nextSigns());
            case "parcel":
                return of(parcel, random.nextInt(7) - 1);
            case "slot":
                return of(parcel, odd(random.nextInt(8)), random.nextInt(5) - 1);
            case "mortgage":
                return of(mortgage, random.nextInt(7) - 1);
            case "rank":
                return new Object[] {parcel, mortgage, random.nextBoolean()};
            case "isAhead":
                return of(parcel, mortgage, aMortgageOn(parcel));
            case "proceeds":
                return of(parcel, price, aCost(price), mortgage);
            case "surePrice":
                return of(parcel, odd(random.nextInt(100)), mortgage);
            case "cover":
            case "coverBits":
                return of(parcel, mortgage);
            case "claims":
                return of(aCreditor(), odd(random.nextInt(5)));
            case "account":
                return of(random.nextInt(11) - 1);
            case "count":
                return of(random.nextInt(9) - 1);
            case "newDrawer":
                return of(odd(random.nextInt(3)), odd(random.nextInt(2)), odd(1 + random.nextInt(6)));
            case "file":
                return of(odd(random.nextInt(3)), odd(random.nextInt(5)), odd(random.nextInt(2)), mortgage);
            case "filed":
                return new Object[] {odd(random.nextInt(3)), odd(random.nextInt(5)), random.nextBoolean()};
            case "copyDrawer":
                return of(odd(random.nextInt(3)), odd(random.nextInt(3)));
            default:
                return new Object[0];
        }
    }

    private static Object[] of(Integer... numbers) {
        return numbers;
    }

    /** The next one to four characters of a text, which is made when the one before is used up. */
    private int nextSigns() {
        if (text.isEmpty()) {
            int entries = 1 + random.nextInt(4);
            for (int i = 0; i < entries; i++) {
                text += anEntry();
            }
            if (random.nextInt(8) == 0) {
                int at = random.nextInt(text.length());
                char sign = ":;@=<+,0123456789nmeprcysuja x".charAt(random.nextInt(30));
                text = text.substring(0, at) + sign + text.substring(at + random.nextInt(2));
            }
        }
        int length = Math.min(text.length(), random.nextInt(4) == 0 ? 1 + random.nextInt(4) : 4);
        int packed = 0;
        for (int i = 0; i < length; i++) {
            packed = packed << 8 | text.charAt(i);
        }
        text = text.substring(length);
        return packed;
    }

    private String anEntry() {
        int parcel = textNumber(aParcel(), 9);
        int mortgage = textNumber(aMortgageOn(parcel), 99);
        int other = textNumber(aMortgageOn(parcel), 99);
        int creditor = textNumber(aCreditor(), 9);
        int amount = textNumber(number(most), 9999);
        switch (random.nextInt(14)) {
            case 0:
                return "n" + amount + ";";
            case 1:
                return "m" + creditor + ":" + amount + "@" + digitsOf(aSet()) + ";";
            case 2:
                return "e" + creditor + ":" + amount + "@" + digitsOf(aSetOf(mortgage)) + "=" + mortgage + ";";
            case 3:
                return "r" + mortgage + "@" + parcel + ";";
            case 4:
                return "c" + mortgage + ";";
            case 5:
                return "y" + String.format("%02d", mortgage) + ":" + textNumber(aPayment(mortgage), 9999) + ";";
            case 6:
                return "s" + parcel + ":" + amount + ";";
            case 7:
                return "u" + parcel + "+" + textNumber(aParcel(), 9) + ";";
            case 8:
                return "j" + mortgage + "+" + other + ";";
            case 9:
                return "a" + parcel + ":" + amount + "," + textNumber(random.nextInt(20), 9999) + ";";
            default:
                return "p" + parcel + ":" + other + "<" + mortgage + ";";
        }
    }

    private static int textNumber(int number, int most) {
        return Math.floorMod(number, most + 1);
    }

    private String digitsOf(int set) {
        StringBuilder digits = new StringBuilder();
        for (int p = 0; p < 10; p++) {
            if ((set >> p & 1) != 0) {
                digits.append(p);
            }
        }
        if (digits.length() > 0 && random.nextInt(3) == 0) {
            digits.append(digits.charAt(0));
        }
        return digits.length() == 0 ? "0" : digits.substring(0, Math.min(8, digits.length()));
    }
}
