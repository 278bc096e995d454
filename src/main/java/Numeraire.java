/** Contracts of value, their exact values on a tree of days, and the ledger of the parties that hold them. */
public final class Numeraire {
    private static final int LAST_DAY = 8;
    private static final int UNITS = 3;
    private static final int PARTIES = 4;
    private static final int MOST_CONTRACTS = 24;
    private static final int DEEPEST = 6;
    private static final int MOST_ITEMS = 40;
    // Within a call one item can become 8: its part has the depth 5 at most, so three 'b' one in the other stand above
    // items of the depth 2.
    private static final int MOST_ITEMS_WITHIN = MOST_ITEMS * 8;
    // Fewer than 64 items can come by one, as its parts form a tree of the depth 6.
    private static final int MOST_TURNS = MOST_ITEMS * 64;
    private static final int PLACES = (LAST_DAY + 1) * (LAST_DAY + 1);
    private static final int MOST_WAYS = 1 << LAST_DAY;
    private static final int NO_PART = -1;

    private final Ledger ledger;
    private final State state;
    private final Values values;
    private final Contracts contracts;
    private final Units units;

    public Numeraire() {
        ledger = new Ledger();
        state = ledger.state;
        values = ledger.values;
        contracts = values.contracts;
        units = values.units;
    }

    // Contracts

    public long setUnit(int unit, int base, int slope) throws IllegalArgumentException {
        if (unit < 1 || unit >= UNITS) {
            throw new IllegalArgumentException("no such unit");
        }
        if (base < -99 || base > 99 || slope < -9 || slope > 9) {
            throw new IllegalArgumentException("number out of range");
        }
        units.define(unit, base, slope);
        values.refresh(0);
        return units.worthAt(unit, state.day, state.level);
    }

    public long worth(int unit, int day, int level) throws IllegalArgumentException {
        needUnit(unit);
        needPlace(day, level);
        return units.worthAt(unit, day, level);
    }

    public int one(int unit) throws IllegalArgumentException, IllegalStateException {
        if (unit == -1) {
            return make('z', NO_PART, NO_PART, 0);
        }
        needUnit(unit);
        return make('o', NO_PART, NO_PART, unit);
    }

    public int turned(char kind, int contract) throws IllegalArgumentException, IndexOutOfBoundsException, UnsupportedOperationException, IllegalStateException {
        if (kind != 'g' && kind != 'l') {
            throw new IllegalArgumentException("no such kind");
        }
        needContract(contract);
        return make(kind, contract, NO_PART, 0);
    }

    public int both(char kind, int first, int second) throws IllegalArgumentException, IndexOutOfBoundsException, UnsupportedOperationException, IllegalStateException {
        if (kind != 'b' && kind != 'e') {
            throw new IllegalArgumentException("no such kind");
        }
        needContract(first);
        needContract(second);
        return make(kind, first, second, 0);
    }

    public int scaled(int contract, int number) throws IndexOutOfBoundsException, IllegalArgumentException, UnsupportedOperationException, IllegalStateException {
        needContract(contract);
        if (number < 0 || number > 9) {
            throw new IllegalArgumentException("number out of range");
        }
        return make('s', contract, NO_PART, number);
    }

    public int either(int level, int first, int second) throws IllegalArgumentException, IndexOutOfBoundsException, UnsupportedOperationException, IllegalStateException {
        if (level < 0 || level > LAST_DAY) {
            throw new IllegalArgumentException("number out of range");
        }
        needContract(first);
        needContract(second);
        return make('i', first, second, level);
    }

    public int timed(char kind, int contract, int day) throws IllegalArgumentException, IndexOutOfBoundsException, UnsupportedOperationException, IllegalStateException {
        if (kind != 'w' && kind != 'u' && kind != 'a') {
            throw new IllegalArgumentException("no such kind");
        }
        if (day < 0 || day > LAST_DAY) {
            throw new IllegalArgumentException("no such day");
        }
        needContract(contract);
        return make(kind, contract, NO_PART, day);
    }

    public char kindOf(int contract) throws IndexOutOfBoundsException {
        needContract(contract);
        return contracts.kindAt(contract);
    }

    public int depthOf(int contract) throws IndexOutOfBoundsException {
        needContract(contract);
        return contracts.depthAt(contract);
    }

    public long value(int contract, int day, int level) throws IndexOutOfBoundsException, IllegalArgumentException {
        needContract(contract);
        needPlace(day, level);
        return values.byTree(contract, day, level);
    }

    public long valueAnew(int contract, int day, int level) throws IndexOutOfBoundsException, IllegalArgumentException {
        needContract(contract);
        needPlace(day, level);
        values.goAllWays(contract, day, level);
        return values.byAllWays(contract);
    }

    public double price(int contract) throws IndexOutOfBoundsException {
        needContract(contract);
        long times = 1L << (LAST_DAY - state.day);
        return (double) ledger.valueNow(contract) / (double) times;
    }

    // Items and days

    public int acquire(int contract, int holder, int other) throws IndexOutOfBoundsException, IllegalArgumentException, IllegalStateException {
        needContract(contract);
        if (!isParty(holder) || !isParty(other)) {
            throw new IllegalArgumentException("no such party");
        }
        if (holder == other) {
            throw new IllegalArgumentException("both parties are the same");
        }
        return itemsIf(ledger.letAcquire(contract, holder, other));
    }

    public int items() {
        return state.items.size();
    }

    public int contractOf(int item) throws IndexOutOfBoundsException {
        needItem(item);
        return state.items.contractAt(item);
    }

    public int holderOf(int item) throws IndexOutOfBoundsException {
        needItem(item);
        return state.items.holderAt(item);
    }

    public int otherOf(int item) throws IndexOutOfBoundsException {
        needItem(item);
        return state.items.otherAt(item);
    }

    public long factorOf(int item) throws IndexOutOfBoundsException {
        needItem(item);
        return state.items.factorAt(item);
    }

    public int choose(int item, boolean isFirst) throws IndexOutOfBoundsException, UnsupportedOperationException, IllegalStateException {
        needItem(item);
        needKind(item, 'e');
        return itemsIf(ledger.finish(item, isFirst));
    }

    public int use(int item) throws IndexOutOfBoundsException, UnsupportedOperationException, IllegalStateException {
        needItem(item);
        needKind(item, 'a');
        return itemsIf(ledger.finish(item, true));
    }

    public int assign(int item, int party) throws IndexOutOfBoundsException, IllegalArgumentException {
        needItem(item);
        if (!isParty(party)) {
            throw new IllegalArgumentException("no such party");
        }
        if (party == state.items.otherAt(item)) {
            throw new IllegalArgumentException("it is the other party of the item");
        }
        int before = state.items.holderAt(item);
        state.items.handOn(item, party);
        return before;
    }

    public int next(boolean isUp) throws UnsupportedOperationException, IllegalStateException {
        if (state.day >= LAST_DAY) {
            throw new UnsupportedOperationException("it is the last day");
        }
        return itemsIf(ledger.goOn(isUp));
    }

    public int close(int party) throws IndexOutOfBoundsException {
        needParty(party);
        return ledger.closeOut(party);
    }

    // Figures

    public long amount(int party, int unit) throws IndexOutOfBoundsException, IllegalArgumentException {
        needParty(party);
        needUnit(unit);
        return state.amountAt(party, unit);
    }

    public long wealth(int party) throws IndexOutOfBoundsException {
        needParty(party);
        return wealthNow(party);
    }

    public int moves() {
        return state.moves;
    }

    public int now() {
        return 10 * state.day + state.level;
    }

    public float openShare() throws ArithmeticException {
        int all = state.items.size();
        if (all <= 0) {
            throw new ArithmeticException("there are no items");
        }
        return (float) ledger.countOfKind('a') / (float) all;
    }

    public boolean isSound() {
        return isEachValueSame() && isNothingInAll();
    }

    // What the calls share

    private int make(char kind, int first, int second, int number) {
        if (contracts.depthOver(first, second) > DEEPEST) {
            throw new UnsupportedOperationException("deeper than 6");
        }
        if (contracts.size() >= MOST_CONTRACTS) {
            throw new IllegalStateException("there are 24 contracts");
        }
        int made = contracts.append(kind, first, second, number);
        values.refresh(made);
        return made;
    }

    private int itemsIf(boolean isRoom) {
        if (!isRoom) {
            throw new IllegalStateException("there would be more than 40 items");
        }
        return state.items.size();
    }

    private long wealthNow(int party) {
        int day = state.day;
        int level = state.level;
        long sum = 0;
        for (int unit = 0; unit < UNITS; unit++) {
            sum += state.amountAt(party, unit) * units.worthAt(unit, day, level);
        }
        return (sum << (LAST_DAY - day)) + ledger.worthOfItems(party);
    }

    private boolean isEachValueSame() {
        int size = contracts.size();
        values.goAllWays(size - 1, state.day, state.level);
        for (int contract = 0; contract < size; contract++) {
            if (values.byAllWays(contract) != ledger.valueNow(contract)) {
                return false;
            }
        }
        return true;
    }

    private boolean isNothingInAll() {
        for (int unit = 0; unit < UNITS; unit++) {
            long amounts = 0;
            for (int party = 0; party < PARTIES; party++) {
                amounts += state.amountAt(party, unit);
            }
            if (amounts != 0) {
                return false;
            }
        }
        long worths = 0;
        for (int party = 0; party < PARTIES; party++) {
            worths += wealthNow(party);
        }
        return worths == 0;
    }

    private void needUnit(int unit) {
        if (unit < 0 || unit >= UNITS) {
            throw new IllegalArgumentException("no such unit");
        }
    }

    private void needPlace(int day, int level) {
        if (day < 0 || day > LAST_DAY) {
            throw new IllegalArgumentException("no such day");
        }
        if (level < 0 || level > day) {
            throw new IllegalArgumentException("no such level");
        }
    }

    private void needContract(int contract) {
        if (!contracts.has(contract)) {
            throw new IndexOutOfBoundsException("no such contract");
        }
    }

    private void needItem(int item) {
        if (!state.items.has(item)) {
            throw new IndexOutOfBoundsException("no such item");
        }
    }

    private void needKind(int item, char kind) {
        if (ledger.kindOfItem(item) != kind) {
            throw new UnsupportedOperationException("the item is of another kind");
        }
    }

    private void needParty(int party) {
        if (!isParty(party)) {
            throw new IndexOutOfBoundsException("no such party");
        }
    }

    private static boolean isParty(int party) {
        return party >= 0 && party < PARTIES;
    }

    // Rows are read and written by these alone, so that no index is used that was not looked at.

    private static int read(int[] row, int index) {
        return index >= 0 && index < row.length ? row[index] : 0;
    }

    private static void write(int[] row, int index, int number) {
        if (index >= 0 && index < row.length) {
            row[index] = number;
        }
    }

    private static long read(long[] row, int index) {
        return index >= 0 && index < row.length ? row[index] : 0;
    }

    private static void write(long[] row, int index, long number) {
        if (index >= 0 && index < row.length) {
            row[index] = number;
        }
    }

    /** What one of each unit is worth in the unit 0. */
    private static final class Units {
        private final int[] bases = {1, 1, 1};
        private final int[] slopes = {0, 0, 0};

        void define(int unit, int base, int slope) {
            write(bases, unit, base);
            write(slopes, unit, slope);
        }

        long worthAt(int unit, int day, int level) {
            return read(bases, unit) + read(slopes, unit) * (2 * level - day);
        }
    }

    /** The contracts by their numbers; the parts of each are earlier ones. */
    private static final class Contracts {
        private final int[] kinds = new int[MOST_CONTRACTS];
        private final int[] firsts = new int[MOST_CONTRACTS];
        private final int[] seconds = new int[MOST_CONTRACTS];
        // The unit of an 'o', the number of an 's', the level of an 'i', the day of a 'w', 'u' or 'a'.
        private final int[] numbers = new int[MOST_CONTRACTS];
        private final int[] depths = new int[MOST_CONTRACTS];
        private int count = 0;

        int size() {
            return count;
        }

        boolean has(int contract) {
            return contract >= 0 && contract < count;
        }

        char kindAt(int contract) {
            return (char) read(kinds, contract);
        }

        int firstAt(int contract) {
            return read(firsts, contract);
        }

        int secondAt(int contract) {
            return read(seconds, contract);
        }

        int numberAt(int contract) {
            return read(numbers, contract);
        }

        int depthAt(int contract) {
            return has(contract) ? read(depths, contract) : 0;
        }

        int depthOver(int first, int second) {
            return 1 + Math.max(depthAt(first), depthAt(second));
        }

        int append(char kind, int first, int second, int number) {
            int made = count;
            write(kinds, made, kind);
            write(firsts, made, first);
            write(seconds, made, second);
            write(numbers, made, number);
            write(depths, made, depthOver(first, second));
            count++;
            return made;
        }
    }

    /** The values of the contracts, each times 2 to the power of 8 less its day. */
    private static final class Values {
        private final Units units = new Units();
        private final Contracts contracts = new Contracts();
        // One row of contracts for each day and level, by whatever way it is reached.
        private final long[] tree = new long[PLACES * MOST_CONTRACTS];
        // One row of contracts for each way, also where ways meet again on a day and level.
        private final long[] ways = new long[MOST_WAYS * MOST_CONTRACTS];

        long byTree(int contract, int day, int level) {
            return read(tree, startOf(day, level) + contract);
        }

        /** Finds the values by the tree for the contracts from one on; those before it must stand. */
        void refresh(int from) {
            for (int day = LAST_DAY; day >= 0; day--) {
                for (int level = 0; level <= day; level++) {
                    refreshPlace(from, day, level);
                }
            }
        }

        private void refreshPlace(int from, int day, int level) {
            int start = startOf(day, level);
            int size = contracts.size();
            for (int contract = from; contract < size; contract++) {
                long later = 0;
                if (day < LAST_DAY) {
                    later = byTree(contract, day + 1, level) + byTree(contract, day + 1, level + 1);
                }
                write(tree, start + contract, valueHere(contract, day, level, tree, start, later));
            }
        }

        /** What goAllWays has found for a contract. */
        long byAllWays(int contract) {
            return read(ways, contract);
        }

        /** Goes along all ways from a day and level, back from their ends, for the contracts up to the last one told. */
        void goAllWays(int last, int day, int level) {
            for (int ahead = LAST_DAY - day; ahead >= 0; ahead--) {
                int number = 1 << ahead;
                // The binary digits of a way tell where it went up, so its two next ones are 2 * way and 2 * way + 1.
                for (int way = 0; way < number; way++) {
                    endWay(last, day + ahead, level + Integer.bitCount(way), way);
                }
            }
        }

        // The rows of a day are written over those of the next one; what is overwritten has been read by then.
        private void endWay(int last, int day, int level, int way) {
            int start = way * MOST_CONTRACTS;
            int next = 2 * start;
            for (int contract = 0; contract <= last; contract++) {
                long later = 0;
                if (day < LAST_DAY) {
                    later = read(ways, next + contract) + read(ways, next + MOST_CONTRACTS + contract);
                }
                write(ways, start + contract, valueHere(contract, day, level, ways, start, later));
            }
        }

        /**
         * The value at a place where the values of all parts stand in a row, from a start on; later is the sum of its
         * own values at the two next places. So a sum is a mean: each day is told times half as much as the one before.
         */
        private long valueHere(int contract, int day, int level, long[] row, int start, long later) {
            long first = partIn(row, start, contracts.firstAt(contract));
            long second = partIn(row, start, contracts.secondAt(contract));
            int number = contracts.numberAt(contract);
            switch (contracts.kindAt(contract)) {
                case 'o':
                    return units.worthAt(number, day, level) << (LAST_DAY - day);
                case 'g':
                    return -first;
                case 'b':
                    return first + second;
                case 'e':
                    return Math.max(first, second);
                case 's':
                    return first * number;
                case 'l':
                    return first * level;
                case 'i':
                    return level >= number ? first : second;
                case 'w':
                    return day < number ? later : first;
                case 'u':
                    return day <= number ? first : 0;
                case 'a':
                    return day > number ? 0 : Math.max(first, day < number ? later : 0);
                default:
                    return 0;
            }
        }

        private static long partIn(long[] row, int start, int part) {
            return part == NO_PART ? 0 : read(row, start + part);
        }

        private static int startOf(int day, int level) {
            return (day * (LAST_DAY + 1) + level) * MOST_CONTRACTS;
        }
    }

    /** The items in the order in which they came. */
    private static final class Items {
        private final int[] contracts = new int[MOST_ITEMS_WITHIN];
        private final int[] holders = new int[MOST_ITEMS_WITHIN];
        private final int[] others = new int[MOST_ITEMS_WITHIN];
        private final long[] factors = new long[MOST_ITEMS_WITHIN];
        private int count = 0;

        int size() {
            return count;
        }

        boolean has(int item) {
            return item >= 0 && item < count;
        }

        int contractAt(int item) {
            return read(contracts, item);
        }

        int holderAt(int item) {
            return read(holders, item);
        }

        int otherAt(int item) {
            return read(others, item);
        }

        long factorAt(int item) {
            return read(factors, item);
        }

        void handOn(int item, int party) {
            write(holders, item, party);
        }

        void append(int contract, int holder, int other, long factor) {
            if (count < MOST_ITEMS_WITHIN) {
                write(contracts, count, contract);
                write(holders, count, holder);
                write(others, count, other);
                write(factors, count, factor);
                count++;
            }
        }

        void takeOut(int item) {
            if (has(item)) {
                count--;
                for (int i = item; i < count; i++) {
                    copy(this, i + 1, i);
                }
            }
        }

        void setTo(Items that) {
            count = that.count;
            for (int i = 0; i < count; i++) {
                copy(that, i, i);
            }
        }

        private void copy(Items from, int index, int to) {
            write(contracts, to, from.contractAt(index));
            write(holders, to, from.holderAt(index));
            write(others, to, from.otherAt(index));
            write(factors, to, from.factorAt(index));
        }
    }

    /** All that acquiring and days change. */
    private static final class State {
        private final Items items = new Items();
        private final long[] amounts = new long[PARTIES * UNITS];
        private int moves = 0;
        private int day = 0;
        private int level = 0;

        long amountAt(int party, int unit) {
            return read(amounts, party * UNITS + unit);
        }

        void give(int giver, int taker, int unit, long number) {
            write(amounts, giver * UNITS + unit, amountAt(giver, unit) - number);
            write(amounts, taker * UNITS + unit, amountAt(taker, unit) + number);
            moves++;
        }

        void setTo(State that) {
            items.setTo(that.items);
            for (int i = 0; i < amounts.length; i++) {
                write(amounts, i, read(that.amounts, i));
            }
            moves = that.moves;
            day = that.day;
            level = that.level;
        }
    }

    /** What the parties acquire, use and close. What answers false has changed nothing, as too many items would stand. */
    private static final class Ledger {
        private final Values values = new Values();
        private final Contracts contracts = values.contracts;
        private final State state = new State();
        private final State before = new State();

        long valueNow(int contract) {
            return values.byTree(contract, state.day, state.level);
        }

        char kindOfItem(int item) {
            return contracts.kindAt(state.items.contractAt(item));
        }

        int countOfKind(char kind) {
            int found = 0;
            for (int item = 0; item < state.items.size(); item++) {
                if (kindOfItem(item) == kind) {
                    found++;
                }
            }
            return found;
        }

        boolean letAcquire(int contract, int holder, int other) {
            before.setTo(state);
            bring(contract, holder, other, 1, DEEPEST);
            return isKept();
        }

        boolean finish(int item, boolean isFirst) {
            before.setTo(state);
            bringPartOf(item, isFirst);
            return isKept();
        }

        boolean goOn(boolean isUp) {
            before.setTo(state);
            chooseAll();
            state.day++;
            if (isUp) {
                state.level++;
            }
            bringDue();
            return isKept();
        }

        int closeOut(int party) {
            int taken = 0;
            int item = 0;
            int size = state.items.size();
            for (int i = 0; i < size; i++) {
                if (state.items.holderAt(item) == party || state.items.otherAt(item) == party) {
                    // An arithmetic shift rounds down, as a division by this power of 2 should.
                    long due = worthOf(item) >> (LAST_DAY - state.day);
                    state.give(state.items.otherAt(item), state.items.holderAt(item), 0, due);
                    state.items.takeOut(item);
                    taken++;
                } else {
                    item++;
                }
            }
            return taken;
        }

        long worthOfItems(int party) {
            long sum = 0;
            for (int item = 0; item < state.items.size(); item++) {
                if (state.items.holderAt(item) == party) {
                    sum += worthOf(item);
                } else if (state.items.otherAt(item) == party) {
                    sum -= worthOf(item);
                }
            }
            return sum;
        }

        private long worthOf(int item) {
            return valueNow(state.items.contractAt(item)) * state.items.factorAt(item);
        }

        private boolean isKept() {
            if (state.items.size() <= MOST_ITEMS) {
                return true;
            }
            state.setTo(before);
            return false;
        }

        // What is taken out leaves its place to the next one; what comes by it stands behind all, and has its turn too.
        private void chooseAll() {
            int item = 0;
            for (int turn = 0; turn < MOST_TURNS && item < state.items.size(); turn++) {
                if (kindOfItem(item) == 'e') {
                    bringPartOf(item, isFirstBetter(state.items.contractAt(item)));
                } else {
                    item++;
                }
            }
        }

        private boolean isFirstBetter(int contract) {
            return valueNow(contracts.firstAt(contract)) >= valueNow(contracts.secondAt(contract));
        }

        private void bringDue() {
            int item = 0;
            int size = state.items.size();
            for (int i = 0; i < size; i++) {
                char kind = kindOfItem(item);
                int day = contracts.numberAt(state.items.contractAt(item));
                if (kind == 'w' && day <= state.day) {
                    bringPartOf(item, true);
                } else if (kind == 'a' && day < state.day) {
                    state.items.takeOut(item);
                } else {
                    item++;
                }
            }
        }

        /** Takes an item out and lets its holder acquire a part of it. */
        private void bringPartOf(int item, boolean isFirst) {
            int contract = state.items.contractAt(item);
            int holder = state.items.holderAt(item);
            int other = state.items.otherAt(item);
            long factor = state.items.factorAt(item);
            int part = isFirst ? contracts.firstAt(contract) : contracts.secondAt(contract);
            state.items.takeOut(item);
            bring(part, holder, other, factor, DEEPEST);
        }

        /** Lets a party acquire a contract; left tells how deep it may be. */
        private void bring(int contract, int holder, int other, long factor, int left) {
            if (left <= 0 || !contracts.has(contract)) {
                return;
            }
            if (isItemNow(contract)) {
                state.items.append(contract, holder, other, factor);
            } else if (contracts.kindAt(contract) == 'o') {
                state.give(other, holder, contracts.numberAt(contract), factor);
            } else {
                bringParts(contract, holder, other, factor, left - 1);
            }
        }

        private boolean isItemNow(int contract) {
            int number = contracts.numberAt(contract);
            switch (contracts.kindAt(contract)) {
                case 'e':
                    return true;
                case 'w':
                    return state.day < number;
                case 'a':
                    return state.day <= number;
                default:
                    return false;
            }
        }

        private void bringParts(int contract, int holder, int other, long factor, int left) {
            int first = contracts.firstAt(contract);
            int second = contracts.secondAt(contract);
            int number = contracts.numberAt(contract);
            switch (contracts.kindAt(contract)) {
                case 'g':
                    bring(first, other, holder, factor, left);
                    break;
                case 'b':
                    bring(first, holder, other, factor, left);
                    bring(second, holder, other, factor, left);
                    break;
                case 's':
                    bring(first, holder, other, factor * number, left);
                    break;
                case 'l':
                    bring(first, holder, other, factor * state.level, left);
                    break;
                case 'i':
                    bring(state.level >= number ? first : second, holder, other, factor, left);
                    break;
                case 'w':
                    bring(first, holder, other, factor, left);
                    break;
                case 'u':
                    if (state.day <= number) {
                        bring(first, holder, other, factor, left);
                    }
                    break;
                default:
                    break;
            }
        }
    }
}
