import java.util.Arrays;
import java.util.NoSuchElementException;

/** A register of mortgages on parcels of land; ../shared/DOC.md tells what each method promises. */
public final class MortgageRegister {
    private static final int MOST_PARCELS = 8;
    private static final int MOST_MORTGAGES = 12;
    private static final int MOST_CREDITORS = 6;
    private static final int MOST_UNITS = 9999;
    private static final int MOST_DRAWERS = 3;
    private static final int MOST_PLACES = 6;
    private static final int MOST_UNDONE = 8;
    private static final int MOST_SIGNS = 60;

    private static final int SORT_PARCELS = 0;
    private static final int SORT_MORTGAGES = 1;

    // No answer of a change is negative, so a refusal is answered as its negative reason.
    private static final int NONE_SUCH = -1;
    private static final int OUT_OF_RANGE = -2;
    private static final int NOT_ON_OR_SAME = -3;
    private static final int FULL = -4;
    private static final int NOT_ALIKE = -5;
    private static final int NOT_BY_RANKS = -6;
    private static final int LAST_PARCEL = -7;
    private static final int TOO_MUCH = -8;

    private static final int REGISTERED = 0;
    private static final int OWED = 1;
    private static final int PAID_OUTSIDE = 2;
    private static final int PAID_BY_AUCTIONS = 3;
    private static final int CANCELLED = 4;
    private static final int LOST = 5;
    private static final int PRICES = 6;
    private static final int COSTS = 7;
    private static final int SURPLUSES = 8;
    private static final int ACCOUNTS = 9;

    private final Ledger ledger = new Ledger();
    private final History history = new History();
    private final Ledger snapshot = new Ledger();
    private final Text text = new Text();
    private final Drawer[] drawers = new Drawer[MOST_DRAWERS];
    private boolean isSaved;
    private int reason;
    private int fault = -1;

    public MortgageRegister() {
        for (int i = 0; i < MOST_DRAWERS; i++) {
            drawers[i] = new Drawer();
        }
    }

    // ---- changes ----

    public int addParcel(int worth) throws UnsupportedOperationException {
        history.prepare(ledger);
        return settle(ledger.openParcel(worth));
    }

    public int register(int creditor, int amount, int parcels) throws UnsupportedOperationException {
        history.prepare(ledger);
        return settle(ledger.enterLast(creditor, amount, parcels));
    }

    public int registerEqual(int creditor, int amount, int parcels, int other) throws UnsupportedOperationException {
        history.prepare(ledger);
        return settle(ledger.enterEqual(creditor, amount, parcels, other));
    }

    public int postpone(int parcel, int back, int ahead) throws UnsupportedOperationException {
        history.prepare(ledger);
        return settle(ledger.stepBack(parcel, back, ahead));
    }

    public int release(int mortgage, int parcel) throws UnsupportedOperationException {
        history.prepare(ledger);
        return settle(ledger.freeParcel(mortgage, parcel));
    }

    public int cancel(int mortgage) throws UnsupportedOperationException {
        history.prepare(ledger);
        return settle(ledger.strike(mortgage));
    }

    public int pay(int mortgage, int amount) throws UnsupportedOperationException {
        history.prepare(ledger);
        return settle(ledger.receive(mortgage, amount));
    }

    public int split(int parcel, int worth) throws UnsupportedOperationException {
        history.prepare(ledger);
        return settle(ledger.partParcel(parcel, worth));
    }

    public int unite(int parcel, int other) throws UnsupportedOperationException {
        history.prepare(ledger);
        return settle(ledger.mergeParcels(parcel, other));
    }

    public int join(int mortgage, int other) throws UnsupportedOperationException {
        history.prepare(ledger);
        return settle(ledger.mergeMortgages(mortgage, other));
    }

    public int auction(int parcel, int price, int costs) throws UnsupportedOperationException {
        history.prepare(ledger);
        return settle(ledger.sell(parcel, price, costs));
    }

    private int settle(int answer) {
        if (answer < 0) {
            reason = -answer;
            throw new UnsupportedOperationException("refused");
        }
        history.keepPrepared();
        return answer;
    }

    // ---- texts ----

    public int append(int packed) throws IllegalArgumentException, IllegalStateException {
        if (!Text.isPacked(packed)) {
            throw new IllegalArgumentException("not one to four characters");
        }
        if (!text.hasRoomFor(packed)) {
            throw new IllegalStateException("the text is too long");
        }
        return text.add(packed);
    }

    public int run() throws IllegalArgumentException, UnsupportedOperationException {
        fault = text.read();
        text.clear();
        if (fault >= 0) {
            throw new IllegalArgumentException("the text has a fault");
        }
        history.prepare(ledger);
        int entries = text.entries();
        int answer = 0;
        for (int i = 0; i < entries && answer >= 0; i++) {
            answer = carryOut(i);
        }
        if (answer < 0) {
            ledger.copyFrom(history.prepared());
        }
        return settle(answer < 0 ? answer : entries);
    }

    private int carryOut(int entry) {
        int a = text.number(entry, 0);
        int b = text.number(entry, 1);
        int c = text.number(entry, 2);
        switch (text.kind(entry)) {
            case 'n':
                return ledger.openParcel(a);
            case 'm':
                return ledger.enterLast(a, b, c);
            case 'e':
                return ledger.enterEqual(a, b, c, text.number(entry, 3));
            case 'p':
                return ledger.stepBack(a, c, b);
            case 'r':
                return ledger.freeParcel(a, b);
            case 'c':
                return ledger.strike(a);
            case 'y':
                return ledger.receive(a, b);
            case 's':
                return ledger.partParcel(a, b);
            case 'u':
                return ledger.mergeParcels(a, b);
            case 'j':
                return ledger.mergeMortgages(a, b);
            default:
                return ledger.sell(a, b, c);
        }
    }

    public int faultPosition() {
        return fault;
    }

    public int refusal() throws NoSuchElementException {
        if (reason == 0) {
            throw new NoSuchElementException("nothing was refused");
        }
        return reason;
    }

    // ---- questions ----

    public int parcel(int parcel, int what) throws IndexOutOfBoundsException, IllegalArgumentException {
        requireParcel(parcel);
        Row row = ledger.row(parcel);
        switch (what) {
            case 0:
                return ledger.worth(parcel);
            case 1:
                return row.size();
            case 2:
                return row.lastRank();
            case 3:
                return row.sumUpTo(row.lastRank());
            case 4:
                return ledger.price(parcel);
            default:
                throw new IllegalArgumentException("no such number of a parcel");
        }
    }

    public int slot(int parcel, int index, int what)
            throws IndexOutOfBoundsException, NoSuchElementException, IllegalArgumentException {
        requireParcel(parcel);
        Row row = ledger.row(parcel);
        if (index < 0 || index >= row.size()) {
            throw new NoSuchElementException("no such slot");
        }
        switch (what) {
            case 0:
                return row.owner(index);
            case 1:
                return row.amount(index);
            case 2:
                return row.rankAt(index);
            default:
                throw new IllegalArgumentException("no such number of a slot");
        }
    }

    public int mortgage(int mortgage, int what) throws IndexOutOfBoundsException, IllegalArgumentException {
        requireMortgage(mortgage);
        switch (what) {
            case 0:
                return ledger.creditor(mortgage);
            case 1:
                return ledger.debt(mortgage);
            case 2:
                return ledger.parcelsOf(mortgage);
            case 3:
                return ledger.receipts(mortgage);
            case 4:
                return ledger.slotsOf(mortgage);
            default:
                throw new IllegalArgumentException("no such number of a mortgage");
        }
    }

    public int rank(int parcel, int mortgage, boolean isLast) throws IndexOutOfBoundsException, NoSuchElementException {
        requireParcel(parcel);
        requireMortgage(mortgage);
        requireLien(parcel, mortgage);
        Row row = ledger.row(parcel);
        return isLast ? row.lastRankOf(mortgage) : row.firstRankOf(mortgage);
    }

    public boolean isAhead(int parcel, int one, int other) throws IndexOutOfBoundsException, NoSuchElementException {
        requireParcel(parcel);
        requireMortgage(one);
        requireMortgage(other);
        requireLien(parcel, one);
        requireLien(parcel, other);
        Row row = ledger.row(parcel);
        return row.lastRankOf(one) < row.firstRankOf(other);
    }

    public int proceeds(int parcel, int price, int costs, int mortgage)
            throws IndexOutOfBoundsException, IllegalArgumentException {
        requireParcel(parcel);
        requireMortgage(mortgage);
        if (price < 1 || price > MOST_UNITS || costs < 0 || costs > price) {
            throw new IllegalArgumentException("price or costs out of range");
        }
        return ledger.gain(parcel, price - costs, mortgage);
    }

    public int surePrice(int parcel, int costs, int mortgage)
            throws IndexOutOfBoundsException, IllegalArgumentException, NoSuchElementException {
        requireParcel(parcel);
        requireMortgage(mortgage);
        if (costs < 0 || costs > MOST_UNITS) {
            throw new IllegalArgumentException("costs out of range");
        }
        requireLien(parcel, mortgage);
        return costs + ledger.burden(parcel, mortgage);
    }

    public int heaviest(int mortgage) throws IndexOutOfBoundsException, NoSuchElementException {
        requireMortgage(mortgage);
        int heaviest = -1;
        float greatest = 0;
        for (int p = 0; p < MOST_PARCELS; p++) {
            if (ledger.liesOn(mortgage, p)) {
                float cover = ledger.coverOn(p, mortgage);
                if (heaviest < 0 || cover > greatest) {
                    heaviest = p;
                    greatest = cover;
                }
            }
        }
        if (heaviest < 0) {
            throw new NoSuchElementException("lies on no parcel");
        }
        return heaviest;
    }

    public float cover(int parcel, int mortgage) throws IndexOutOfBoundsException, NoSuchElementException {
        requireParcel(parcel);
        requireMortgage(mortgage);
        requireLien(parcel, mortgage);
        return ledger.coverOn(parcel, mortgage);
    }

    public int coverBits(int parcel, int mortgage) throws IndexOutOfBoundsException, NoSuchElementException {
        requireParcel(parcel);
        requireMortgage(mortgage);
        requireLien(parcel, mortgage);
        return Bits.ofFloat(ledger.coverOn(parcel, mortgage));
    }

    public double load() throws ArithmeticException {
        requireParcels();
        return ledger.loadOfAll();
    }

    public long loadBits() throws ArithmeticException {
        requireParcels();
        return Bits.ofDouble(ledger.loadOfAll());
    }

    public int claims(int creditor, int rank) throws IllegalArgumentException {
        if (creditor < 0 || creditor >= MOST_CREDITORS) {
            throw new IllegalArgumentException("no such creditor");
        }
        return ledger.claimsOf(creditor, rank);
    }

    public long account(int what) throws IllegalArgumentException {
        if (what < 0 || what >= ACCOUNTS) {
            throw new IllegalArgumentException("no such account");
        }
        return ledger.balance(what);
    }

    private void requireParcel(int parcel) {
        if (!ledger.isParcel(parcel)) {
            throw new IndexOutOfBoundsException("no such parcel");
        }
    }

    private void requireParcels() {
        if (ledger.parcels() == 0) {
            throw new ArithmeticException("no parcels");
        }
    }

    private void requireMortgage(int mortgage) {
        if (!ledger.wasMortgage(mortgage)) {
            throw new IndexOutOfBoundsException("no such mortgage");
        }
    }

    private void requireLien(int parcel, int mortgage) {
        if (!ledger.liesOn(mortgage, parcel)) {
            throw new NoSuchElementException("the mortgage does not lie on the parcel");
        }
    }

    // ---- drawers ----

    public int newDrawer(int drawer, int sort, int places) throws IndexOutOfBoundsException, IllegalArgumentException {
        requireDrawer(drawer);
        if (!isSort(sort) || places < 1 || places > MOST_PLACES) {
            throw new IllegalArgumentException("sort or places out of range");
        }
        return drawers[drawer].renew(sort, places);
    }

    public int file(int drawer, int place, int sort, int number)
            throws IndexOutOfBoundsException, IllegalArgumentException, NoSuchElementException, IllegalStateException {
        requirePlace(drawer, place);
        if (!isSort(sort)) {
            throw new IllegalArgumentException("sort out of range");
        }
        boolean isOfParcel = sort == SORT_PARCELS;
        if (isOfParcel ? !ledger.wasParcel(number) : !ledger.wasMortgage(number)) {
            throw new NoSuchElementException("no such parcel or mortgage");
        }
        if (drawers[drawer].sort() != sort) {
            throw new IllegalStateException("the drawer is of the other sort");
        }
        int value = isOfParcel ? ledger.worth(number) : ledger.debt(number);
        drawers[drawer].put(place, number, value);
        return value;
    }

    public int filed(int drawer, int place, boolean isNumber) throws IndexOutOfBoundsException, NoSuchElementException {
        requirePlace(drawer, place);
        if (!drawers[drawer].isFilled(place)) {
            throw new NoSuchElementException("the place is empty");
        }
        return isNumber ? drawers[drawer].number(place) : drawers[drawer].value(place);
    }

    public int copyDrawer(int from, int to) throws IndexOutOfBoundsException, IllegalStateException {
        requireDrawer(from);
        requireDrawer(to);
        if (drawers[from].places() == 0) {
            throw new IllegalStateException("the drawer is empty");
        }
        drawers[to].copyFrom(drawers[from]);
        return drawers[to].places();
    }

    private void requireDrawer(int drawer) {
        if (drawer < 0 || drawer >= MOST_DRAWERS) {
            throw new IndexOutOfBoundsException("no such drawer");
        }
    }

    private void requirePlace(int drawer, int place) {
        requireDrawer(drawer);
        if (place < 0 || place >= drawers[drawer].places()) {
            throw new IndexOutOfBoundsException("no such place");
        }
    }

    private static boolean isSort(int sort) {
        return sort == SORT_PARCELS || sort == SORT_MORTGAGES;
    }

    // ---- counts, undo and snapshot ----

    public int count(int what) throws IllegalArgumentException {
        switch (what) {
            case 0:
                return ledger.parcels();
            case 1:
                return ledger.parcelsEver();
            case 2:
                return ledger.mortgages();
            case 3:
                return ledger.mortgagesEver();
            case 4:
                return ledger.slots();
            case 5:
                return history.kept();
            case 6:
                return text.length();
            default:
                throw new IllegalArgumentException("no such count");
        }
    }

    public int undo() throws IllegalStateException {
        if (history.kept() == 0) {
            throw new IllegalStateException("no change is kept");
        }
        history.takeBack(ledger);
        return history.kept();
    }

    public int save() {
        snapshot.copyFrom(ledger);
        isSaved = true;
        return ledger.mortgagesEver();
    }

    public int restore() throws IllegalStateException {
        if (!isSaved) {
            throw new IllegalStateException("no snapshot");
        }
        ledger.copyFrom(snapshot);
        history.forget();
        return ledger.mortgagesEver();
    }

    /** The slots of one parcel, in their order. */
    private static final class Row {
        private static final int FIRST_ROOM = 16;

        private int[] owners = new int[FIRST_ROOM];
        private int[] amounts = new int[FIRST_ROOM];
        private int[] ranks = new int[FIRST_ROOM];
        private int size;

        int size() {
            return size;
        }

        int owner(int index) {
            return owners[index];
        }

        int amount(int index) {
            return amounts[index];
        }

        int rankAt(int index) {
            return ranks[index];
        }

        int lastRank() {
            return size == 0 ? 0 : ranks[size - 1];
        }

        int firstRankOf(int mortgage) {
            int index = firstOf(mortgage);
            return index < 0 ? 0 : ranks[index];
        }

        int lastRankOf(int mortgage) {
            int index = lastOf(mortgage);
            return index < 0 ? 0 : ranks[index];
        }

        boolean holds(int mortgage) {
            return firstOf(mortgage) >= 0;
        }

        private int firstOf(int mortgage) {
            for (int i = 0; i < size; i++) {
                if (owners[i] == mortgage) {
                    return i;
                }
            }
            return -1;
        }

        private int lastOf(int mortgage) {
            for (int i = size - 1; i >= 0; i--) {
                if (owners[i] == mortgage) {
                    return i;
                }
            }
            return -1;
        }

        int slotsOf(int mortgage) {
            int slots = 0;
            for (int i = 0; i < size; i++) {
                if (owners[i] == mortgage) {
                    slots++;
                }
            }
            return slots;
        }

        int sumUpTo(int rank) {
            int sum = 0;
            for (int i = 0; i < size && ranks[i] <= rank; i++) {
                sum += amounts[i];
            }
            return sum;
        }

        int sumOf(int mortgage, int rank) {
            int sum = 0;
            for (int i = 0; i < size; i++) {
                if (owners[i] == mortgage && ranks[i] == rank) {
                    sum += amounts[i];
                }
            }
            return sum;
        }

        void clear() {
            size = 0;
        }

        void copyFrom(Row other) {
            makeRoom(other.size);
            System.arraycopy(other.owners, 0, owners, 0, other.size);
            System.arraycopy(other.amounts, 0, amounts, 0, other.size);
            System.arraycopy(other.ranks, 0, ranks, 0, other.size);
            size = other.size;
        }

        boolean isLike(Row other) {
            if (size != other.size) {
                return false;
            }
            for (int i = 0; i < size; i++) {
                if (owners[i] != other.owners[i] || amounts[i] != other.amounts[i] || ranks[i] != other.ranks[i]) {
                    return false;
                }
            }
            return true;
        }

        void addLast(int mortgage, int amount) {
            insert(size, mortgage, amount, lastRank() + 1);
        }

        void addEqual(int mortgage, int amount, int other) {
            int rank = firstRankOf(other);
            int index = size;
            while (index > 0 && ranks[index - 1] > rank) {
                index--;
            }
            insert(index, mortgage, amount, rank);
        }

        /** Gives the places of both to the one ahead, until it has its debt, and then to the one that steps back. */
        void stepBack(int back, int ahead, int debt) {
            partWhere(back, ahead, debt);
            int missing = debt;
            for (int i = 0; i < size; i++) {
                if (owners[i] == back || owners[i] == ahead) {
                    owners[i] = missing > 0 ? ahead : back;
                    missing -= amounts[i];
                }
            }
            tidy();
        }

        /** Parts the slot of the two mortgages within which their slots reach the amount, if there is one. */
        private void partWhere(int one, int other, int amount) {
            int missing = amount;
            for (int i = 0; i < size && missing > 0; i++) {
                if (owners[i] == one || owners[i] == other) {
                    if (amounts[i] > missing) {
                        insert(i + 1, owners[i], amounts[i] - missing, ranks[i]);
                        amounts[i] = missing;
                        return;
                    }
                    missing -= amounts[i];
                }
            }
        }

        void removeAll(int mortgage) {
            for (int i = 0; i < size; i++) {
                if (owners[i] == mortgage) {
                    amounts[i] = 0;
                }
            }
            tidy();
        }

        void lose(int mortgage, int amount) {
            int left = amount;
            for (int i = size - 1; i >= 0 && left > 0; i--) {
                if (owners[i] == mortgage) {
                    int lost = Math.min(left, amounts[i]);
                    amounts[i] -= lost;
                    left -= lost;
                }
            }
            tidy();
        }

        void giveAll(int from, int to) {
            for (int i = 0; i < size; i++) {
                if (owners[i] == from) {
                    owners[i] = to;
                }
            }
            tidy();
        }

        /** Whether the slots of both are one block, in which all slots of the first one come first. */
        boolean isBlock(int first, int second) {
            int start = firstOf(first);
            int border = lastOf(first);
            int end = lastOf(second);
            if (start < 0 || firstOf(second) != border + 1) {
                return false;
            }
            for (int i = start; i <= end; i++) {
                if (owners[i] != (i <= border ? first : second)) {
                    return false;
                }
            }
            return true;
        }

        /** Adds to gains what each mortgage gets of the money, and answers what remains. */
        int share(int money, int[] gains) {
            int left = money;
            int start = 0;
            while (start < size) {
                int end = start;
                int sum = 0;
                do {
                    sum += amounts[end];
                    end++;
                } while (end < size && ranks[end] == ranks[start]);
                left -= shareRank(start, end, sum, Math.min(left, sum), gains);
                start = end;
            }
            return left;
        }

        private int shareRank(int start, int end, int sum, int money, int[] gains) {
            if (sum <= 0) {
                return 0;
            }
            int left = money;
            for (int i = start; i < end; i++) {
                int part = amounts[i] * money / sum;
                gains[owners[i]] += part;
                left -= part;
            }
            for (int i = start; i < end && left > 0; i++) {
                gains[owners[i]]++;
                left--;
            }
            return money;
        }

        private void insert(int index, int mortgage, int amount, int rank) {
            makeRoom(size + 1);
            System.arraycopy(owners, index, owners, index + 1, size - index);
            System.arraycopy(amounts, index, amounts, index + 1, size - index);
            System.arraycopy(ranks, index, ranks, index + 1, size - index);
            owners[index] = mortgage;
            amounts[index] = amount;
            ranks[index] = rank;
            size++;
        }

        // A postponement can add a slot each time, so a row has no bound of its own and grows when it must.
        private void makeRoom(int slots) {
            if (slots <= owners.length) {
                return;
            }
            int room = 2 * slots;
            owners = Arrays.copyOf(owners, room);
            amounts = Arrays.copyOf(amounts, room);
            ranks = Arrays.copyOf(ranks, room);
        }

        /** Drops slots without an amount, tells the ranks anew, and makes like neighbours one. */
        private void tidy() {
            int kept = 0;
            int oldRank = 0;
            int newRank = 0;
            for (int i = 0; i < size; i++) {
                if (amounts[i] == 0) {
                    continue;
                }
                if (ranks[i] != oldRank) {
                    oldRank = ranks[i];
                    newRank++;
                }
                if (kept > 0 && owners[kept - 1] == owners[i] && ranks[kept - 1] == newRank) {
                    amounts[kept - 1] += amounts[i];
                } else {
                    owners[kept] = owners[i];
                    amounts[kept] = amounts[i];
                    ranks[kept] = newRank;
                    kept++;
                }
            }
            size = kept;
        }
    }

    /** All that belongs to the register; its changes are refused before anything is touched. */
    private static final class Ledger {
        private final Row[] rows = new Row[MOST_PARCELS];
        private final int[] worths = new int[MOST_PARCELS];
        private final int[] prices = new int[MOST_PARCELS];
        private final int[] creditors = new int[MOST_MORTGAGES];
        private final int[] debts = new int[MOST_MORTGAGES];
        private final int[] receipts = new int[MOST_MORTGAGES];
        private final int[] gains = new int[MOST_MORTGAGES];
        private final long[] accounts = new long[ACCOUNTS];
        private int parcelsEver;
        private int mortgagesEver;

        Ledger() {
            for (int p = 0; p < MOST_PARCELS; p++) {
                rows[p] = new Row();
            }
        }

        void copyFrom(Ledger other) {
            for (int p = 0; p < MOST_PARCELS; p++) {
                rows[p].copyFrom(other.rows[p]);
            }
            System.arraycopy(other.worths, 0, worths, 0, MOST_PARCELS);
            System.arraycopy(other.prices, 0, prices, 0, MOST_PARCELS);
            System.arraycopy(other.creditors, 0, creditors, 0, MOST_MORTGAGES);
            System.arraycopy(other.debts, 0, debts, 0, MOST_MORTGAGES);
            System.arraycopy(other.receipts, 0, receipts, 0, MOST_MORTGAGES);
            System.arraycopy(other.accounts, 0, accounts, 0, ACCOUNTS);
            parcelsEver = other.parcelsEver;
            mortgagesEver = other.mortgagesEver;
        }

        // -- changes --

        int openParcel(int worth) {
            if (!isUnits(worth)) {
                return OUT_OF_RANGE;
            }
            if (parcelsEver == MOST_PARCELS) {
                return FULL;
            }
            return nextParcel(worth);
        }

        int enterLast(int creditor, int amount, int parcels) {
            if (!areParcels(parcels)) {
                return NONE_SUCH;
            }
            if (!isEntry(creditor, amount, parcels)) {
                return OUT_OF_RANGE;
            }
            if (mortgagesEver == MOST_MORTGAGES) {
                return FULL;
            }
            for (int p = 0; p < MOST_PARCELS; p++) {
                if (isIn(parcels, p)) {
                    rows[p].addLast(mortgagesEver, amount);
                }
            }
            return nextMortgage(creditor, amount);
        }

        int enterEqual(int creditor, int amount, int parcels, int other) {
            if (!areParcels(parcels) || !isMortgage(other)) {
                return NONE_SUCH;
            }
            if (!isEntry(creditor, amount, parcels)) {
                return OUT_OF_RANGE;
            }
            if ((parcels & ~parcelsOf(other)) != 0) {
                return NOT_ON_OR_SAME;
            }
            if (mortgagesEver == MOST_MORTGAGES) {
                return FULL;
            }
            for (int p = 0; p < MOST_PARCELS; p++) {
                if (isIn(parcels, p)) {
                    rows[p].addEqual(mortgagesEver, amount, other);
                }
            }
            return nextMortgage(creditor, amount);
        }

        int stepBack(int parcel, int back, int ahead) {
            if (!isParcel(parcel) || !isMortgage(back) || !isMortgage(ahead)) {
                return NONE_SUCH;
            }
            Row row = rows[parcel];
            if (back == ahead || !row.holds(back) || !row.holds(ahead)) {
                return NOT_ON_OR_SAME;
            }
            if (row.firstRankOf(back) >= row.lastRankOf(ahead)) {
                return NOT_BY_RANKS;
            }
            row.stepBack(back, ahead, debts[ahead]);
            return row.size();
        }

        int freeParcel(int mortgage, int parcel) {
            if (!isMortgage(mortgage) || !isParcel(parcel)) {
                return NONE_SUCH;
            }
            if (!rows[parcel].holds(mortgage)) {
                return NOT_ON_OR_SAME;
            }
            int others = Integer.bitCount(parcelsOf(mortgage)) - 1;
            if (others == 0) {
                return LAST_PARCEL;
            }
            rows[parcel].removeAll(mortgage);
            return others;
        }

        int strike(int mortgage) {
            if (!isMortgage(mortgage)) {
                return NONE_SUCH;
            }
            int debt = debts[mortgage];
            for (int p = 0; p < MOST_PARCELS; p++) {
                rows[p].removeAll(mortgage);
            }
            debts[mortgage] = 0;
            accounts[CANCELLED] += debt;
            return debt;
        }

        int receive(int mortgage, int amount) {
            if (!isMortgage(mortgage)) {
                return NONE_SUCH;
            }
            if (!isUnits(amount)) {
                return OUT_OF_RANGE;
            }
            if (amount > debts[mortgage]) {
                return TOO_MUCH;
            }
            reduce(mortgage, amount);
            accounts[PAID_OUTSIDE] += amount;
            return debts[mortgage];
        }

        int partParcel(int parcel, int worth) {
            if (!isParcel(parcel)) {
                return NONE_SUCH;
            }
            if (worth < 1 || worth >= worths[parcel]) {
                return OUT_OF_RANGE;
            }
            if (parcelsEver == MOST_PARCELS) {
                return FULL;
            }
            int part = nextParcel(worth);
            rows[part].copyFrom(rows[parcel]);
            worths[parcel] -= worth;
            return part;
        }

        int mergeParcels(int parcel, int other) {
            if (!isParcel(parcel) || !isParcel(other)) {
                return NONE_SUCH;
            }
            int worth = worths[parcel] + worths[other];
            if (worth > MOST_UNITS) {
                return OUT_OF_RANGE;
            }
            if (parcel == other) {
                return NOT_ON_OR_SAME;
            }
            if (!rows[parcel].isLike(rows[other])) {
                return NOT_BY_RANKS;
            }
            worths[parcel] = worth;
            worths[other] = 0;
            rows[other].clear();
            return worth;
        }

        int mergeMortgages(int mortgage, int other) {
            if (!isMortgage(mortgage) || !isMortgage(other)) {
                return NONE_SUCH;
            }
            int debt = debts[mortgage] + debts[other];
            if (debt > MOST_UNITS) {
                return OUT_OF_RANGE;
            }
            if (mortgage == other) {
                return NOT_ON_OR_SAME;
            }
            if (creditors[mortgage] != creditors[other] || parcelsOf(mortgage) != parcelsOf(other)) {
                return NOT_ALIKE;
            }
            if (!areBlocks(mortgage, other)) {
                return NOT_BY_RANKS;
            }
            for (int p = 0; p < MOST_PARCELS; p++) {
                rows[p].giveAll(other, mortgage);
            }
            debts[mortgage] = debt;
            debts[other] = 0;
            return debt;
        }

        int sell(int parcel, int price, int costs) {
            if (!isParcel(parcel)) {
                return NONE_SUCH;
            }
            if (!isUnits(price) || costs < 0 || costs > MOST_UNITS) {
                return OUT_OF_RANGE;
            }
            if (costs > price) {
                return TOO_MUCH;
            }
            int surplus = share(parcel, price - costs);
            rows[parcel].clear();
            for (int m = 0; m < mortgagesEver; m++) {
                reduce(m, gains[m]);
                accounts[PAID_BY_AUCTIONS] += gains[m];
                if (parcelsOf(m) == 0) {
                    accounts[LOST] += debts[m];
                    debts[m] = 0;
                }
            }
            prices[parcel] = price;
            accounts[PRICES] += price;
            accounts[COSTS] += costs;
            accounts[SURPLUSES] += surplus;
            return surplus;
        }

        // What is behind the last parcel and the last mortgage is 0 in every ledger, since all of it is copied.
        private int nextParcel(int worth) {
            int parcel = parcelsEver;
            worths[parcel] = worth;
            parcelsEver++;
            return parcel;
        }

        private int nextMortgage(int creditor, int amount) {
            int mortgage = mortgagesEver;
            creditors[mortgage] = creditor;
            debts[mortgage] = amount;
            accounts[REGISTERED] += amount;
            mortgagesEver++;
            return mortgage;
        }

        private void reduce(int mortgage, int amount) {
            debts[mortgage] -= amount;
            receipts[mortgage] += amount;
            for (int p = 0; p < MOST_PARCELS; p++) {
                rows[p].lose(mortgage, amount);
            }
        }

        private int share(int parcel, int money) {
            Arrays.fill(gains, 0);
            return rows[parcel].share(money, gains);
        }

        private boolean areBlocks(int first, int second) {
            for (int p = 0; p < MOST_PARCELS; p++) {
                if (rows[p].holds(first) && !rows[p].isBlock(first, second)) {
                    return false;
                }
            }
            return true;
        }

        private boolean areParcels(int parcels) {
            int all = 0;
            for (int p = 0; p < MOST_PARCELS; p++) {
                if (isParcel(p)) {
                    all |= 1 << p;
                }
            }
            return (parcels & ~all) == 0;
        }

        private static boolean isEntry(int creditor, int amount, int parcels) {
            return creditor >= 0 && creditor < MOST_CREDITORS && isUnits(amount) && parcels != 0;
        }

        private static boolean isUnits(int number) {
            return number >= 1 && number <= MOST_UNITS;
        }

        private static boolean isIn(int parcels, int parcel) {
            return (parcels >> parcel & 1) != 0;
        }

        // -- questions --

        boolean wasParcel(int parcel) {
            return parcel >= 0 && parcel < parcelsEver;
        }

        boolean isParcel(int parcel) {
            return wasParcel(parcel) && worths[parcel] > 0;
        }

        boolean wasMortgage(int mortgage) {
            return mortgage >= 0 && mortgage < mortgagesEver;
        }

        boolean isMortgage(int mortgage) {
            return wasMortgage(mortgage) && debts[mortgage] > 0;
        }

        boolean liesOn(int mortgage, int parcel) {
            return isParcel(parcel) && rows[parcel].holds(mortgage);
        }

        Row row(int parcel) {
            return rows[parcel];
        }

        int worth(int parcel) {
            return worths[parcel];
        }

        int price(int parcel) {
            return prices[parcel];
        }

        int creditor(int mortgage) {
            return creditors[mortgage];
        }

        int debt(int mortgage) {
            return debts[mortgage];
        }

        int receipts(int mortgage) {
            return receipts[mortgage];
        }

        int parcelsOf(int mortgage) {
            int parcels = 0;
            for (int p = 0; p < MOST_PARCELS; p++) {
                if (rows[p].holds(mortgage)) {
                    parcels |= 1 << p;
                }
            }
            return parcels;
        }

        int slotsOf(int mortgage) {
            int slots = 0;
            for (int p = 0; p < MOST_PARCELS; p++) {
                slots += rows[p].slotsOf(mortgage);
            }
            return slots;
        }

        int gain(int parcel, int money, int mortgage) {
            share(parcel, money);
            return gains[mortgage];
        }

        /** The amounts up to the last rank of the mortgage. */
        int burden(int parcel, int mortgage) {
            Row row = rows[parcel];
            return row.sumUpTo(row.lastRankOf(mortgage));
        }

        float coverOn(int parcel, int mortgage) {
            int worth = worths[parcel];
            return worth > 0 ? (float) burden(parcel, mortgage) / (float) worth : 0;
        }

        double loadOfAll() {
            int all = 0;
            for (int p = 0; p < parcelsEver; p++) {
                all += worths[p];
            }
            return all > 0 ? (double) owed() / (double) all : 0;
        }

        int claimsOf(int creditor, int rank) {
            int sum = 0;
            for (int m = 0; m < mortgagesEver; m++) {
                for (int p = 0; p < parcelsEver && creditors[m] == creditor; p++) {
                    sum += rows[p].sumOf(m, rank);
                }
            }
            return sum;
        }

        long balance(int what) {
            return what == OWED ? owed() : accounts[what];
        }

        private long owed() {
            long sum = 0;
            for (int m = 0; m < mortgagesEver; m++) {
                sum += debts[m];
            }
            return sum;
        }

        int parcels() {
            int parcels = 0;
            for (int p = 0; p < parcelsEver; p++) {
                if (isParcel(p)) {
                    parcels++;
                }
            }
            return parcels;
        }

        int parcelsEver() {
            return parcelsEver;
        }

        int mortgages() {
            int mortgages = 0;
            for (int m = 0; m < mortgagesEver; m++) {
                if (isMortgage(m)) {
                    mortgages++;
                }
            }
            return mortgages;
        }

        int mortgagesEver() {
            return mortgagesEver;
        }

        int slots() {
            int slots = 0;
            for (int p = 0; p < parcelsEver; p++) {
                slots += rows[p].size();
            }
            return slots;
        }
    }

    /** The ledgers before the latest changes, in a ring. */
    private static final class History {
        // One more than can be undone: a change that is refused must not cost the oldest one.
        private static final int RING = MOST_UNDONE + 1;

        private final Ledger[] ring = new Ledger[RING];
        private int next;
        private int kept;

        History() {
            for (int i = 0; i < RING; i++) {
                ring[i] = new Ledger();
            }
        }

        int kept() {
            return kept;
        }

        void prepare(Ledger ledger) {
            ring[next].copyFrom(ledger);
        }

        Ledger prepared() {
            return ring[next];
        }

        void keepPrepared() {
            next = next == RING - 1 ? 0 : next + 1;
            kept = Math.min(kept + 1, MOST_UNDONE);
        }

        void takeBack(Ledger ledger) {
            next = next == 0 ? RING - 1 : next - 1;
            kept--;
            ledger.copyFrom(ring[next]);
        }

        void forget() {
            kept = 0;
        }
    }

    /** The text buffer, and the entries of the text that was read last. */
    private static final class Text {
        // The shortest entries, such as "n1;", have three characters.
        private static final int MOST_ENTRIES = MOST_SIGNS / 3;
        private static final int NUMBERS = 4;
        private static final char SIGN_LEAST = 32;
        private static final char SIGN_MOST = 126;

        private final char[] signs = new char[MOST_SIGNS];
        private final char[] kinds = new char[MOST_ENTRIES];
        private final int[] numbers = new int[MOST_ENTRIES * NUMBERS];
        private int length;
        private int entries;
        private int position;

        int length() {
            return length;
        }

        int entries() {
            return entries;
        }

        char kind(int entry) {
            return kinds[entry];
        }

        int number(int entry, int index) {
            return numbers[entry * NUMBERS + index];
        }

        static boolean isPacked(int packed) {
            for (int shift = 24; shift >= 0; shift -= 8) {
                int sign = packed >> shift & 255;
                if (sign != 0 && (sign < SIGN_LEAST || sign > SIGN_MOST)) {
                    return false;
                }
            }
            return packed != 0;
        }

        boolean hasRoomFor(int packed) {
            int more = 0;
            for (int shift = 24; shift >= 0; shift -= 8) {
                if ((packed >> shift & 255) != 0) {
                    more++;
                }
            }
            return length + more <= MOST_SIGNS;
        }

        int add(int packed) {
            for (int shift = 24; shift >= 0; shift -= 8) {
                int sign = packed >> shift & 255;
                if (sign != 0 && length < MOST_SIGNS) {
                    signs[length] = (char) sign;
                    length++;
                }
            }
            return length;
        }

        void clear() {
            length = 0;
        }

        /** Reads the buffer into entries, and answers the fault position or -1. */
        int read() {
            entries = 0;
            position = 0;
            do {
                if (entries == MOST_ENTRIES || !readEntry()) {
                    return position;
                }
                entries++;
            } while (position < length);
            return -1;
        }

        // In a form, D is a digit, M a mortgage, N a number and S a set of parcels; other signs stand for themselves.
        private static String formOf(char kind) {
            switch (kind) {
                case 'n':
                    return "N;";
                case 'm':
                    return "D:N@S;";
                case 'e':
                    return "D:N@S=M;";
                case 'p':
                    return "D:M<M;";
                case 'r':
                    return "M@D;";
                case 'c':
                    return "M;";
                case 'y':
                    return "M:N;";
                case 's':
                    return "D:N;";
                case 'u':
                    return "D+D;";
                case 'j':
                    return "M+M;";
                case 'a':
                    return "D:N,N;";
                default:
                    return "";
            }
        }

        private static int mostDigits(char token) {
            switch (token) {
                case 'D':
                    return 1;
                case 'M':
                    return 2;
                case 'N':
                    return 4;
                case 'S':
                    return 8;
                default:
                    return 0;
            }
        }

        private boolean readEntry() {
            char kind = sign();
            String form = formOf(kind);
            if (form.isEmpty()) {
                return false;
            }
            kinds[entries] = kind;
            position++;
            int index = entries * NUMBERS;
            for (int i = 0; i < form.length(); i++) {
                char token = form.charAt(i);
                if (mostDigits(token) == 0) {
                    if (sign() != token) {
                        return false;
                    }
                    position++;
                } else {
                    if (!isDigit()) {
                        return false;
                    }
                    numbers[index] = readDigits(token);
                    index++;
                }
            }
            return true;
        }

        private int readDigits(char token) {
            int most = mostDigits(token);
            int number = 0;
            for (int i = 0; i < most && isDigit(); i++) {
                int digit = sign() - '0';
                number = token == 'S' ? number | 1 << digit : number * 10 + digit;
                position++;
            }
            return number;
        }

        // No text holds the character 0, so it can stand for the end.
        private char sign() {
            return position < length ? signs[position] : 0;
        }

        private boolean isDigit() {
            char sign = sign();
            return sign >= '0' && sign <= '9';
        }
    }

    /** A drawer, which is empty while it has no places. */
    private static final class Drawer {
        private final int[] numbers = new int[MOST_PLACES];
        private final int[] values = new int[MOST_PLACES];
        private int sort;
        private int places;

        int sort() {
            return sort;
        }

        int places() {
            return places;
        }

        int renew(int newSort, int newPlaces) {
            int before = places;
            Arrays.fill(numbers, -1);
            sort = newSort;
            places = newPlaces;
            return before;
        }

        void put(int place, int number, int value) {
            numbers[place] = number;
            values[place] = value;
        }

        boolean isFilled(int place) {
            return numbers[place] >= 0;
        }

        int number(int place) {
            return numbers[place];
        }

        int value(int place) {
            return values[place];
        }

        void copyFrom(Drawer other) {
            System.arraycopy(other.numbers, 0, numbers, 0, MOST_PLACES);
            System.arraycopy(other.values, 0, values, 0, MOST_PLACES);
            sort = other.sort;
            places = other.places;
        }
    }

    /** The bits of floating-point numbers that are not negative and neither tiny nor infinite. */
    private static final class Bits {
        private static final int MOST_HALVINGS = 1000;

        static int ofFloat(float number) {
            if (!(number > 0)) {
                return 0;
            }
            float scaled = number;
            int exponent = 127;
            for (int i = 0; i < MOST_HALVINGS && scaled >= 2; i++) {
                scaled = scaled / 2;
                exponent++;
            }
            for (int i = 0; i < MOST_HALVINGS && scaled < 1; i++) {
                scaled = scaled * 2;
                exponent--;
            }
            return exponent << 23 | (int) ((scaled - 1) * 8388608);
        }

        static long ofDouble(double number) {
            if (!(number > 0)) {
                return 0;
            }
            double scaled = number;
            long exponent = 1023;
            for (int i = 0; i < MOST_HALVINGS && scaled >= 2; i++) {
                scaled = scaled / 2;
                exponent++;
            }
            for (int i = 0; i < MOST_HALVINGS && scaled < 1; i++) {
                scaled = scaled * 2;
                exponent--;
            }
            return exponent << 52 | (long) ((scaled - 1) * 4503599627370496L);
        }
    }
}
