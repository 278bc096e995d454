import java.util.Arrays;

/** What stands in a ledger, as short texts; and the numbers just outside a range. */
final class Told {
    static final String ILLEGAL = "IllegalArgumentException";
    static final String INDEX = "IndexOutOfBoundsException";
    static final String UNSUPPORTED = "UnsupportedOperationException";
    static final String STATE = "IllegalStateException";
    static final String ARITHMETIC = "ArithmeticException";

    private Told() {
    }

    /** The amounts of a party in the units 0, 1 and 2. */
    static String amounts(Numeraire x, int party) {
        return x.amount(party, 0) + " " + x.amount(party, 1) + " " + x.amount(party, 2);
    }

    static String amounts(Numeraire x) {
        return amounts(x, 0) + ", " + amounts(x, 1) + ", " + amounts(x, 2) + ", " + amounts(x, 3);
    }

    static String wealths(Numeraire x) {
        return x.wealth(0) + " " + x.wealth(1) + " " + x.wealth(2) + " " + x.wealth(3);
    }

    /** The day, the items, the moves and the wealth: what most calls that change anything change. */
    static String figures(Numeraire x) {
        return x.now() + " " + x.items() + " " + x.moves() + ", " + wealths(x);
    }

    /** The contract, the holder, the other party and the factor of an item. */
    static String item(Numeraire x, int item) {
        return x.contractOf(item) + " " + x.holderOf(item) + " " + x.otherOf(item) + " " + x.factorOf(item);
    }

    static String items(Numeraire x) {
        StringBuilder all = new StringBuilder();
        int size = x.items();
        for (int item = 0; item < size; item++) {
            all.append(item == 0 ? "" : ", ").append(item(x, item));
        }
        return all.toString();
    }

    static String kinds(Numeraire x) {
        StringBuilder all = new StringBuilder();
        int size = x.items();
        for (int item = 0; item < size; item++) {
            all.append(x.kindOf(x.contractOf(item)));
        }
        return all.toString();
    }

    /** Numbers that a range does not hold: next to it, the outermost ones, and those that a narrower type would take for inner ones. */
    static int[] outside(int least, int most) {
        int[] tried = {Integer.MIN_VALUE, Integer.MIN_VALUE + 1, least - 65536, least - 256, least - 2, least - 1, most + 1, most + 2,
            most + 256, most + 65536, least + Integer.MIN_VALUE, Integer.MAX_VALUE - 1, Integer.MAX_VALUE};
        return Arrays.stream(tried).filter(n -> n < least || n > most).distinct().toArray();
    }

    /** Makes contracts until there are so many. */
    static void fill(Numeraire x, int most) {
        int made = x.one(-1);
        while (made < most - 1) {
            made = x.one(-1);
        }
    }

    /** Goes on until it is a day and a level; the first days go up. */
    static void goTo(Numeraire x, int day, int level) {
        while (x.now() / 10 < day) {
            x.next(x.now() % 10 < level);
        }
    }

    /** Lets 0 acquire a contract from 1 until there are so many items. */
    static void crowd(Numeraire x, int contract, int most) {
        while (x.items() < most) {
            x.acquire(contract, 0, 1);
        }
    }
}
