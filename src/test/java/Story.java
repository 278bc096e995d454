/** Ledgers that have come to some state, all that can be asked of them in parts, and a run of calls with which they go on. */
final class Story {
    /** How many parts "look" has; each has some 200 calls, so that no object is asked more than 512. */
    static final int PARTS = 9;
    /** A contract that gives one of the unit 0 and brings two items. */
    static final int PAYS_AND_STANDS = 6;
    /** An 'e' whose first part, and an 'a' whose part brings that, and a 'w' that does so on the day 2. */
    static final int CHOICE_OF_TWO = 8;
    static final int USE_OF_TWO = 9;
    static final int DUE_OF_TWO = 7;
    /** A contract of the depth 6. */
    static final int DEEPEST = 10;
    static final int MAY = 4;
    static final int CHOICE = 16;
    /** How many contracts "open" has made. */
    static final int OPEN = 19;

    private Story() {
    }

    /** A ledger with 6 contracts of the depths 1 to 5, and the three items e, a and w, on the day 3. */
    static Numeraire some() {
        Numeraire x = new Numeraire();
        int unit = x.one(1);
        int may = x.timed('a', unit, 8);
        int choice = x.both('e', may, unit);
        int later = x.timed('w', choice, 8);
        x.turned('g', later);
        x.scaled(later, 2);
        Told.goTo(x, 3, 2);
        x.acquire(choice, 0, 1);
        x.acquire(may, 1, 2);
        x.acquire(later, 2, 3);
        return x;
    }

    /** What can be seen of such a ledger in some 60 calls. */
    static String lookAtSome(Numeraire x) {
        StringBuilder all = new StringBuilder();
        for (int contract = 0; contract < 6; contract++) {
            all.append(x.kindOf(contract)).append(x.depthOf(contract)).append(x.value(contract, 0, 0)).append(x.value(contract, 8, 7)).append(' ');
        }
        return all + Check.told(() -> x.kindOf(6)) + x.worth(1, 8, 8) + " " + x.worth(2, 8, 8) + " " + Told.amounts(x) + " " + Told.wealths(x) + " "
            + Told.items(x) + " " + x.moves() + " " + x.now() + " " + x.openShare() + x.isSound();
    }

    /** A ledger with 40 items: an a of a unit each. */
    static Numeraire forty() {
        Numeraire x = new Numeraire();
        x.timed('a', x.one(0), 8);
        Told.crowd(x, 1, 40);
        return x;
    }

    /** 19 contracts, the items e, a, w, a, e, w on the day 1, and room for more of all. */
    static void open(Numeraire x) {
        makeContracts(x);
        x.next(true);
        acquireSome(x);
    }

    /** 24 contracts and 40 items on the day 1: no contract, item or day more. */
    static void crowded(Numeraire x) {
        makeContracts(x);
        makeTheOthers(x);
        x.next(true);
        acquireSome(x);
        x.acquire(CHOICE_OF_TWO, 3, 0);
        x.acquire(DUE_OF_TWO, 3, 1);
        Told.crowd(x, MAY, 40);
    }

    /** The day 8, with 40 items, of which each could bring two. */
    static void last(Numeraire x) {
        makeContracts(x);
        makeTheOthers(x);
        Told.goTo(x, 8, 5);
        x.acquire(USE_OF_TWO, 2, 3);
        Told.crowd(x, CHOICE_OF_TWO, 40);
    }

    private static void makeContracts(Numeraire x) {
        x.setUnit(1, 5, 3);
        x.setUnit(2, -4, -2);
        x.one(0);
        x.one(1);
        x.one(2);
        x.one(-1);
        x.timed('a', 1, 8);
        x.both('b', 4, 4);
        x.both('b', 0, 5);
        x.timed('w', 6, 2);
        x.both('e', 6, 3);
        x.timed('a', 6, 8);
        x.turned('g', 8);
        x.scaled(4, 3);
        x.turned('l', 11);
        x.either(2, 0, 1);
        x.timed('w', 13, 5);
        x.timed('u', 2, 3);
        x.both('e', 1, 2);
        x.timed('a', 15, 4);
        x.scaled(16, 0);
    }

    private static void makeTheOthers(Numeraire x) {
        x.timed('w', 4, 3);
        x.timed('u', 5, 8);
        x.both('e', 2, 3);
        x.both('b', 14, 16);
        x.turned('g', 17);
    }

    private static void acquireSome(Numeraire x) {
        x.acquire(CHOICE_OF_TWO, 0, 1);
        x.acquire(USE_OF_TWO, 1, 2);
        x.acquire(DUE_OF_TWO, 2, 3);
        x.acquire(12, 2, 0);
        x.acquire(18, 3, 0);
        x.acquire(14, 1, 3);
        x.acquire(13, 0, 2);
    }

    static String look(Numeraire x, int part) {
        switch (part) {
            case 0:
                return x.now() + " " + x.moves() + " " + Check.told(x::openShare) + " " + x.isSound() + " " + Told.amounts(x) + " " + Told.wealths(x)
                    + " " + Told.items(x);
            case 1:
                return units(x);
            case 2:
                return contracts(x);
            default:
                return values(x, 4 * (part - 3));
        }
    }

    private static String units(Numeraire x) {
        StringBuilder all = new StringBuilder();
        for (int unit = 0; unit <= 2; unit++) {
            for (int day = 0; day <= 8; day++) {
                for (int level = 0; level <= day; level++) {
                    all.append(x.worth(unit, day, level)).append(' ');
                }
            }
        }
        return all.toString();
    }

    private static String contracts(Numeraire x) {
        StringBuilder all = new StringBuilder();
        for (int i = 0; i < 24; i++) {
            int contract = i;
            all.append(Check.told(() -> x.kindOf(contract) + " " + x.depthOf(contract) + " " + x.price(contract) + " " + x.valueAnew(contract, 0, 0) + " "
                + x.valueAnew(contract, 4, 2) + " " + x.valueAnew(contract, 8, 7))).append(", ");
        }
        return all.toString();
    }

    private static String values(Numeraire x, int from) {
        StringBuilder all = new StringBuilder();
        for (int i = from; i < from + 4; i++) {
            int contract = i;
            for (int d = 0; d <= 8; d++) {
                int day = d;
                for (int l = 0; l <= day; l++) {
                    int level = l;
                    all.append(Check.told(() -> x.value(contract, day, level))).append(' ');
                }
            }
        }
        return all.toString();
    }

    /** A fixed run of some 250 calls, right and wrong ones, with their answers. */
    static String later(Numeraire x) {
        StringBuilder all = new StringBuilder();
        for (int i = 0; i < 5; i++) {
            int round = i;
            tell(all, () -> x.acquire(CHOICE, round % 4, (round + 1) % 4));
            tell(all, () -> x.choose(0, round % 2 == 0));
            tell(all, () -> x.use(round));
            tell(all, () -> x.assign(round, 3));
            tell(all, () -> x.timed('a', 2, 8));
            tell(all, () -> x.acquire(PAYS_AND_STANDS, 2, 3));
            tell(all, () -> x.setUnit(2, round, -round));
            tell(all, () -> x.next(round % 2 == 1));
            tell(all, () -> x.close(round == 3 ? 2 : 4));
            tell(all, x::moves);
        }
        for (int i = 0; i < 24; i++) {
            int contract = i;
            tell(all, () -> x.price(contract));
        }
        return all + Told.amounts(x) + " " + Told.wealths(x) + " " + Told.items(x);
    }

    private static void tell(StringBuilder all, Check.Call call) {
        all.append(Check.told(call)).append(' ');
    }
}
