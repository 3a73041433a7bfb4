import java.util.ArrayDeque;
import java.util.ArrayList;
import java.util.Arrays;
import java.util.Deque;
import java.util.List;
import java.util.NoSuchElementException;
import java.util.function.IntPredicate;
import java.util.function.IntSupplier;
import java.util.regex.Matcher;
import java.util.regex.Pattern;
import java.util.stream.IntStream;

/**
 * A second reading of the document, as a reference for random runs. A row is kept unit by unit of money, so that
 * slots are just the longest runs of units of the same mortgage and rank, and becoming one needs no code.
 */
final class Model {
    private static final String ENTRY = "(n\\d{1,4}|m\\d:\\d{1,4}@\\d{1,8}|e\\d:\\d{1,4}@\\d{1,8}=\\d{1,2}"
        + "|p\\d:\\d{1,2}<\\d{1,2}|r\\d{1,2}@\\d|c\\d{1,2}|y\\d{1,2}:\\d{1,4}|s\\d:\\d{1,4}|u\\d\\+\\d"
        + "|j\\d{1,2}\\+\\d{1,2}|a\\d:\\d{1,4},\\d{1,4});";
    private static final Pattern TEXT = Pattern.compile("(" + ENTRY + ")+");
    private static final Pattern DIGITS = Pattern.compile("\\d+");

    private static final class Land {
        int worth;
        int price;
        int[] units = {};

        Land copy() {
            Land copy = new Land();
            copy.worth = worth;
            copy.price = price;
            copy.units = units;
            return copy;
        }
    }

    private static final class Loan {
        int creditor;
        int debt;
        int paid;

        Loan copy() {
            Loan copy = new Loan();
            copy.creditor = creditor;
            copy.debt = debt;
            copy.paid = paid;
            return copy;
        }
    }

    private static final class State {
        final List<Land> lands = new ArrayList<>();
        final List<Loan> loans = new ArrayList<>();
        long[] accounts = new long[9];

        State copy() {
            State copy = new State();
            lands.forEach(land -> copy.lands.add(land.copy()));
            loans.forEach(loan -> copy.loans.add(loan.copy()));
            copy.accounts = accounts.clone();
            return copy;
        }
    }

    /** A drawer's places hold null or a number and a worth or debt. */
    private record Cabinet(int sort, List<int[]> places) {
    }

    private record Run(int owner, int amount, int rank) {
    }

    private State state = new State();
    private final Deque<State> past = new ArrayDeque<>();
    private State saved;
    private String buffer = "";
    private int fault = -1;
    private int reason;
    private final Cabinet[] cabinets = new Cabinet[3];

    private static int owner(int unit) {
        return unit & 15;
    }

    private static int rankOf(int unit) {
        return unit >> 4;
    }

    private static int[] units(int rank, int owner, int amount) {
        int[] units = new int[amount];
        Arrays.fill(units, rank << 4 | owner);
        return units;
    }

    private static int[] joined(int[]... parts) {
        return Arrays.stream(parts).flatMapToInt(Arrays::stream).toArray();
    }

    private static int[] only(int[] units, IntPredicate isKept) {
        return Arrays.stream(units).filter(isKept).toArray();
    }

    private static int[] withRanksAnew(int[] units) {
        int[] ranks = Arrays.stream(units).map(Model::rankOf).distinct().sorted().toArray();
        return Arrays.stream(units).map(u -> Arrays.binarySearch(ranks, rankOf(u)) + 1 << 4 | owner(u)).toArray();
    }

    private static List<Run> runs(int[] units) {
        List<Run> runs = new ArrayList<>();
        int start = 0;
        for (int i = 1; i <= units.length; i++) {
            if (i == units.length || units[i] != units[start]) {
                runs.add(new Run(owner(units[start]), i - start, rankOf(units[start])));
                start = i;
            }
        }
        return runs;
    }

    private boolean isLand(int p) {
        return p >= 0 && p < state.lands.size() && state.lands.get(p).worth > 0;
    }

    private boolean wasLoan(int m) {
        return m >= 0 && m < state.loans.size();
    }

    private boolean isLoan(int m) {
        return wasLoan(m) && state.loans.get(m).debt > 0;
    }

    private int[] row(int p) {
        return state.lands.get(p).units;
    }

    private int[] ranksOf(int p, int m) {
        return Arrays.stream(row(p)).filter(u -> owner(u) == m).map(Model::rankOf).toArray();
    }

    private boolean lies(int m, int p) {
        return ranksOf(p, m).length > 0;
    }

    private int setOf(int m) {
        return IntStream.range(0, state.lands.size()).filter(p -> lies(m, p)).map(p -> 1 << p).sum();
    }

    private static final class Refused extends RuntimeException {
        private static final long serialVersionUID = 1;
        final int reason;

        Refused(int reason) {
            super(null, null, false, false);
            this.reason = reason;
        }
    }

    private static void refuseIf(boolean isSo, int reason) {
        if (isSo) {
            throw new Refused(reason);
        }
    }

    private int change(IntSupplier what) {
        State before = state.copy();
        try {
            int answer = what.getAsInt();
            past.addLast(before);
            if (past.size() > 8) {
                past.removeFirst();
            }
            return answer;
        } catch (Refused e) {
            state = before;
            reason = e.reason;
            throw new UnsupportedOperationException();
        }
    }

    // ---- changes, each as an entry of a text carries it out ----

    private int doAdd(int worth) {
        refuseIf(worth < 1 || worth > 9999, 2);
        refuseIf(state.lands.size() >= 8, 4);
        Land land = new Land();
        land.worth = worth;
        state.lands.add(land);
        return state.lands.size() - 1;
    }

    private int doRegister(int creditor, int amount, int parcels, boolean isEqual, int other) {
        for (int bit = 0; bit < 32; bit++) {
            refuseIf((parcels >>> bit & 1) == 1 && !isLand(bit), 1);
        }
        refuseIf(isEqual && !isLoan(other), 1);
        refuseIf(creditor < 0 || creditor > 5 || amount < 1 || amount > 9999 || parcels == 0, 2);
        for (int bit = 0; bit < 8 && isEqual; bit++) {
            refuseIf((parcels >>> bit & 1) == 1 && !lies(other, bit), 3);
        }
        refuseIf(state.loans.size() >= 12, 4);
        int number = state.loans.size();
        for (int bit = 0; bit < 8; bit++) {
            if ((parcels >>> bit & 1) == 1) {
                int[] units = row(bit);
                int last = units.length == 0 ? 0 : rankOf(units[units.length - 1]);
                int rank = isEqual ? ranksOf(bit, other)[0] : last + 1;
                state.lands.get(bit).units = joined(only(units, u -> rankOf(u) <= rank), units(rank, number, amount),
                    only(units, u -> rankOf(u) > rank));
            }
        }
        Loan loan = new Loan();
        loan.creditor = creditor;
        loan.debt = amount;
        state.loans.add(loan);
        state.accounts[0] += amount;
        return number;
    }

    private int doPostpone(int p, int back, int ahead) {
        refuseIf(!isLand(p) || !isLoan(back) || !isLoan(ahead), 1);
        refuseIf(!lies(back, p) || !lies(ahead, p) || back == ahead, 3);
        int[] aheadRanks = ranksOf(p, ahead);
        refuseIf(ranksOf(p, back)[0] >= aheadRanks[aheadRanks.length - 1], 6);
        int[] units = row(p).clone();
        int given = 0;
        for (int i = 0; i < units.length; i++) {
            if (owner(units[i]) == back || owner(units[i]) == ahead) {
                units[i] = rankOf(units[i]) << 4 | (given < state.loans.get(ahead).debt ? ahead : back);
                given++;
            }
        }
        state.lands.get(p).units = units;
        return runs(units).size();
    }

    private void takeOff(int p, int m) {
        state.lands.get(p).units = withRanksAnew(only(row(p), u -> owner(u) != m));
    }

    private int doRelease(int m, int p) {
        refuseIf(!isLoan(m) || !isLand(p), 1);
        refuseIf(!lies(m, p), 3);
        refuseIf(setOf(m) == 1 << p, 7);
        takeOff(p, m);
        return Integer.bitCount(setOf(m));
    }

    private int doCancel(int m) {
        refuseIf(!isLoan(m), 1);
        IntStream.range(0, state.lands.size()).forEach(p -> takeOff(p, m));
        int debt = state.loans.get(m).debt;
        state.loans.get(m).debt = 0;
        state.accounts[4] += debt;
        return debt;
    }

    private void lessen(int m, int amount) {
        state.loans.get(m).debt -= amount;
        state.loans.get(m).paid += amount;
        for (Land land : state.lands) {
            int[] units = land.units.clone();
            int left = amount;
            for (int i = units.length - 1; i >= 0 && left > 0; i--) {
                if (owner(units[i]) == m) {
                    units[i] = -1;
                    left--;
                }
            }
            land.units = withRanksAnew(only(units, u -> u >= 0));
        }
    }

    private int doPay(int m, int amount) {
        refuseIf(!isLoan(m), 1);
        refuseIf(amount < 1 || amount > 9999, 2);
        refuseIf(amount > state.loans.get(m).debt, 8);
        lessen(m, amount);
        state.accounts[2] += amount;
        return state.loans.get(m).debt;
    }

    private int doSplit(int p, int worth) {
        refuseIf(!isLand(p), 1);
        refuseIf(worth < 1 || worth >= state.lands.get(p).worth, 2);
        refuseIf(state.lands.size() >= 8, 4);
        Land part = new Land();
        part.worth = worth;
        part.units = row(p);
        state.lands.get(p).worth -= worth;
        state.lands.add(part);
        return state.lands.size() - 1;
    }

    private int doUnite(int p, int other) {
        refuseIf(!isLand(p) || !isLand(other), 1);
        int worth = state.lands.get(p).worth + state.lands.get(other).worth;
        refuseIf(worth > 9999, 2);
        refuseIf(p == other, 3);
        refuseIf(!Arrays.equals(row(p), row(other)), 6);
        state.lands.get(p).worth = worth;
        state.lands.set(other, new Land());
        return worth;
    }

    private int doJoin(int m, int other) {
        refuseIf(!isLoan(m) || !isLoan(other), 1);
        int debt = state.loans.get(m).debt + state.loans.get(other).debt;
        refuseIf(debt > 9999, 2);
        refuseIf(m == other, 3);
        refuseIf(state.loans.get(m).creditor != state.loans.get(other).creditor || setOf(m) != setOf(other), 5);
        for (Land land : state.lands) {
            StringBuilder owners = new StringBuilder();
            Arrays.stream(land.units).map(Model::owner).forEach(o -> owners.append(o == m ? 'm' : o == other ? 'o' : ' '));
            refuseIf(!owners.toString().trim().matches("m*o*"), 6);
        }
        for (Land land : state.lands) {
            land.units = Arrays.stream(land.units).map(u -> rankOf(u) << 4 | (owner(u) == other ? m : owner(u))).toArray();
        }
        state.loans.get(m).debt = debt;
        state.loans.get(other).debt = 0;
        return debt;
    }

    /** What each mortgage gets, and behind them the surplus. */
    private int[] shares(int p, int money) {
        int[] gains = new int[13];
        List<Run> runs = runs(row(p));
        int last = runs.stream().mapToInt(Run::rank).max().orElse(0);
        long left = money;
        for (int rank = 1; rank <= last; rank++) {
            int now = rank;
            List<Run> equals = runs.stream().filter(run -> run.rank() == now).toList();
            long sum = equals.stream().mapToLong(Run::amount).sum();
            long start = left;
            for (Run run : equals) {
                long part = start >= sum ? run.amount() : (long) run.amount() * start / sum;
                gains[run.owner()] += (int) part;
                left -= part;
            }
            for (int i = 0; start < sum && left > 0; i++, left--) {
                gains[equals.get(i).owner()]++;
            }
        }
        gains[12] = (int) left;
        return gains;
    }

    private int doAuction(int p, int price, int costs) {
        refuseIf(!isLand(p), 1);
        refuseIf(price < 1 || price > 9999 || costs < 0 || costs > 9999, 2);
        refuseIf(costs > price, 8);
        int[] gains = shares(p, price - costs);
        int[] concerned = IntStream.range(0, state.loans.size()).filter(m -> lies(m, p)).toArray();
        state.lands.get(p).units = new int[0];
        for (int m : concerned) {
            lessen(m, gains[m]);
            state.accounts[3] += gains[m];
            if (setOf(m) == 0) {
                state.accounts[5] += state.loans.get(m).debt;
                state.loans.get(m).debt = 0;
            }
        }
        state.lands.get(p).price = price;
        state.accounts[6] += price;
        state.accounts[7] += costs;
        state.accounts[8] += gains[12];
        return gains[12];
    }

    public int addParcel(int worth) {
        return change(() -> doAdd(worth));
    }

    public int register(int creditor, int amount, int parcels) {
        return change(() -> doRegister(creditor, amount, parcels, false, 0));
    }

    public int registerEqual(int creditor, int amount, int parcels, int other) {
        return change(() -> doRegister(creditor, amount, parcels, true, other));
    }

    public int postpone(int parcel, int back, int ahead) {
        return change(() -> doPostpone(parcel, back, ahead));
    }

    public int release(int mortgage, int parcel) {
        return change(() -> doRelease(mortgage, parcel));
    }

    public int cancel(int mortgage) {
        return change(() -> doCancel(mortgage));
    }

    public int pay(int mortgage, int amount) {
        return change(() -> doPay(mortgage, amount));
    }

    public int split(int parcel, int worth) {
        return change(() -> doSplit(parcel, worth));
    }

    public int unite(int parcel, int other) {
        return change(() -> doUnite(parcel, other));
    }

    public int join(int mortgage, int other) {
        return change(() -> doJoin(mortgage, other));
    }

    public int auction(int parcel, int price, int costs) {
        return change(() -> doAuction(parcel, price, costs));
    }

    // ---- texts ----

    public int append(int packed) {
        StringBuilder more = new StringBuilder();
        for (int i = 3; i >= 0; i--) {
            int sign = packed >>> 8 * i & 255;
            if (sign != 0 && (sign < 32 || sign > 126)) {
                throw new IllegalArgumentException();
            }
            if (sign != 0) {
                more.append((char) sign);
            }
        }
        if (more.length() == 0) {
            throw new IllegalArgumentException();
        }
        if (buffer.length() + more.length() > 60) {
            throw new IllegalStateException();
        }
        buffer += more;
        return buffer.length();
    }

    private static int faultOf(String text) {
        if (TEXT.matcher(text).matches()) {
            return -1;
        }
        for (int length = 1; length <= text.length(); length++) {
            Matcher matcher = TEXT.matcher(text.substring(0, length));
            if (!matcher.matches() && !matcher.hitEnd()) {
                return length - 1;
            }
        }
        return text.length();
    }

    public int run() {
        String text = buffer;
        buffer = "";
        fault = faultOf(text);
        if (fault >= 0) {
            throw new IllegalArgumentException();
        }
        String[] entries = text.split(";");
        return change(() -> {
            for (String entry : entries) {
                carryOut(entry);
            }
            return entries.length;
        });
    }

    private static int setOfDigits(String digits) {
        return digits.chars().map(c -> 1 << c - '0').reduce(0, (a, b) -> a | b);
    }

    private void carryOut(String entry) {
        String[] parts = DIGITS.matcher(entry).results().map(r -> r.group()).toArray(String[]::new);
        int[] n = Arrays.stream(parts).mapToInt(Integer::parseInt).toArray();
        switch (entry.charAt(0)) {
            case 'n' -> doAdd(n[0]);
            case 'm' -> doRegister(n[0], n[1], setOfDigits(parts[2]), false, 0);
            case 'e' -> doRegister(n[0], n[1], setOfDigits(parts[2]), true, n[3]);
            case 'p' -> doPostpone(n[0], n[2], n[1]);
            case 'r' -> doRelease(n[0], n[1]);
            case 'c' -> doCancel(n[0]);
            case 'y' -> doPay(n[0], n[1]);
            case 's' -> doSplit(n[0], n[1]);
            case 'u' -> doUnite(n[0], n[1]);
            case 'j' -> doJoin(n[0], n[1]);
            case 'a' -> doAuction(n[0], n[1], n[2]);
            default -> throw new AssertionError(entry);
        }
    }

    public int faultPosition() {
        return fault;
    }

    public int refusal() {
        noneIf(reason == 0);
        return reason;
    }

    // ---- questions ----

    private static void boundsIf(boolean isSo) {
        if (isSo) {
            throw new IndexOutOfBoundsException();
        }
    }

    private static void argumentIf(boolean isSo) {
        if (isSo) {
            throw new IllegalArgumentException();
        }
    }

    private static void noneIf(boolean isSo) {
        if (isSo) {
            throw new NoSuchElementException();
        }
    }

    private static void stateIf(boolean isSo) {
        if (isSo) {
            throw new IllegalStateException();
        }
    }

    public int parcel(int parcel, int what) {
        boundsIf(!isLand(parcel));
        argumentIf(what < 0 || what > 4);
        int[] units = row(parcel);
        int last = units.length == 0 ? 0 : rankOf(units[units.length - 1]);
        Land land = state.lands.get(parcel);
        return new int[] {land.worth, runs(units).size(), last, units.length, land.price}[what];
    }

    public int slot(int parcel, int index, int what) {
        boundsIf(!isLand(parcel));
        List<Run> runs = runs(row(parcel));
        noneIf(index < 0 || index >= runs.size());
        argumentIf(what < 0 || what > 2);
        Run run = runs.get(index);
        return new int[] {run.owner(), run.amount(), run.rank()}[what];
    }

    public int mortgage(int mortgage, int what) {
        boundsIf(!wasLoan(mortgage));
        argumentIf(what < 0 || what > 4);
        Loan loan = state.loans.get(mortgage);
        long slots = state.lands.stream().flatMap(l -> runs(l.units).stream()).filter(r -> r.owner() == mortgage).count();
        return new int[] {loan.creditor, loan.debt, setOf(mortgage), loan.paid, (int) slots}[what];
    }

    public int rank(int parcel, int mortgage, boolean isLast) {
        boundsIf(!isLand(parcel) || !wasLoan(mortgage));
        int[] ranks = ranksOf(parcel, mortgage);
        noneIf(ranks.length == 0);
        return ranks[isLast ? ranks.length - 1 : 0];
    }

    public boolean isAhead(int parcel, int one, int other) {
        boundsIf(!isLand(parcel) || !wasLoan(one) || !wasLoan(other));
        noneIf(!lies(one, parcel) || !lies(other, parcel));
        return rank(parcel, one, true) < rank(parcel, other, false);
    }

    public int proceeds(int parcel, int price, int costs, int mortgage) {
        boundsIf(!isLand(parcel) || !wasLoan(mortgage));
        argumentIf(price < 1 || price > 9999 || costs < 0 || costs > price);
        return shares(parcel, price - costs)[mortgage];
    }

    private int upToLastRank(int parcel, int mortgage) {
        int last = rank(parcel, mortgage, true);
        return only(row(parcel), u -> rankOf(u) <= last).length;
    }

    public int surePrice(int parcel, int costs, int mortgage) {
        boundsIf(!isLand(parcel) || !wasLoan(mortgage));
        argumentIf(costs < 0 || costs > 9999);
        return costs + upToLastRank(parcel, mortgage);
    }

    public int heaviest(int mortgage) {
        boundsIf(!wasLoan(mortgage));
        noneIf(setOf(mortgage) == 0);
        int best = Integer.numberOfTrailingZeros(setOf(mortgage));
        for (int p = 0; p < state.lands.size(); p++) {
            if (lies(mortgage, p) && cover(p, mortgage) > cover(best, mortgage)) {
                best = p;
            }
        }
        return best;
    }

    public float cover(int parcel, int mortgage) {
        boundsIf(!isLand(parcel) || !wasLoan(mortgage));
        return (float) upToLastRank(parcel, mortgage) / (float) state.lands.get(parcel).worth;
    }

    public int coverBits(int parcel, int mortgage) {
        return Float.floatToIntBits(cover(parcel, mortgage));
    }

    public double load() {
        if (count(0) == 0) {
            throw new ArithmeticException();
        }
        return (double) account(1) / (double) state.lands.stream().mapToInt(l -> l.worth).sum();
    }

    public long loadBits() {
        return Double.doubleToLongBits(load());
    }

    public int claims(int creditor, int rank) {
        argumentIf(creditor < 0 || creditor > 5);
        return (int) state.lands.stream().flatMapToInt(l -> Arrays.stream(l.units))
            .filter(u -> rankOf(u) == rank && state.loans.get(owner(u)).creditor == creditor).count();
    }

    public long account(int what) {
        argumentIf(what < 0 || what > 8);
        return what == 1 ? state.loans.stream().mapToLong(l -> l.debt).sum() : state.accounts[what];
    }

    // ---- drawers, counts, undo and snapshot ----

    private int placesOf(int drawer) {
        boundsIf(drawer < 0 || drawer > 2);
        return cabinets[drawer] == null ? 0 : cabinets[drawer].places().size();
    }

    public int newDrawer(int drawer, int sort, int places) {
        int before = placesOf(drawer);
        argumentIf(sort < 0 || sort > 1 || places < 1 || places > 6);
        cabinets[drawer] = new Cabinet(sort, new ArrayList<>(Arrays.asList(new int[places][])));
        cabinets[drawer].places().replaceAll(place -> null);
        return before;
    }

    public int file(int drawer, int place, int sort, int number) {
        boundsIf(place < 0 || place >= placesOf(drawer));
        argumentIf(sort < 0 || sort > 1);
        noneIf(number < 0 || number >= (sort == 0 ? state.lands.size() : state.loans.size()));
        stateIf(cabinets[drawer].sort() != sort);
        int value = sort == 0 ? state.lands.get(number).worth : state.loans.get(number).debt;
        cabinets[drawer].places().set(place, new int[] {number, value});
        return value;
    }

    public int filed(int drawer, int place, boolean isNumber) {
        boundsIf(place < 0 || place >= placesOf(drawer));
        int[] excerpt = cabinets[drawer].places().get(place);
        noneIf(excerpt == null);
        return excerpt[isNumber ? 0 : 1];
    }

    public int copyDrawer(int from, int to) {
        int places = placesOf(from);
        placesOf(to);
        stateIf(places == 0);
        cabinets[to] = new Cabinet(cabinets[from].sort(), new ArrayList<>(cabinets[from].places()));
        return places;
    }

    public int count(int what) {
        argumentIf(what < 0 || what > 6);
        return new int[] {
            (int) state.lands.stream().filter(l -> l.worth > 0).count(), state.lands.size(),
            (int) state.loans.stream().filter(l -> l.debt > 0).count(), state.loans.size(),
            state.lands.stream().mapToInt(l -> runs(l.units).size()).sum(), past.size(), buffer.length(),
        }[what];
    }

    public int undo() {
        stateIf(past.isEmpty());
        state = past.removeLast();
        return past.size();
    }

    public int save() {
        saved = state.copy();
        return state.loans.size();
    }

    public int restore() {
        stateIf(saved == null);
        state = saved.copy();
        past.clear();
        return state.loans.size();
    }
}
