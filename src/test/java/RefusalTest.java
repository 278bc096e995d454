import java.util.ArrayList;
import java.util.List;

/** Of several exceptions the one that is documented first; and a refused call leaves every later answer as it was. */
public final class RefusalTest {
    private static final int LOW = Integer.MIN_VALUE;
    private static final int HIGH = Integer.MAX_VALUE;
    private static final Check check = new Check("RefusalTest");

    /** A call on a ledger. */
    private interface Ask {
        Object answer(Numeraire x);
    }

    /** A state to which a ledger comes. */
    private interface Way {
        void go(Numeraire x);
    }

    /** A call that is refused, and what it throws. */
    private static final class Refused {
        final String what;
        final String exception;
        final Ask call;

        Refused(String what, String exception, Ask call) {
            this.what = what;
            this.exception = exception;
            this.call = call;
        }
    }

    private RefusalTest() {
    }

    public static void main(String[] args) {
        statesAreAsTold();
        empty();
        open();
        crowded();
        last();
        check.end();
    }

    /** The pairs below are pairs only if each of the two exceptions would be thrown without the other one. */
    private static void statesAreAsTold() {
        Numeraire x = told(Story::crowded);
        check.due("crowded", "40 11 6", () -> x.items() + " " + x.now() + " " + x.depthOf(Story.DEEPEST));
        check.due("crowded, its items", "eaw", () -> Told.kinds(x).substring(0, 3));
        Numeraire y = told(Story::open);
        check.due("open", "19 11 6", () -> y.one(2) + " " + y.now() + " " + y.depthOf(Story.DEEPEST));
        check.due("open, its items", "eaw", () -> Told.kinds(y).substring(0, 3));
        Numeraire z = told(Story::last);
        check.due("last", "40 85", () -> z.items() + " " + z.now());
        check.due("last, its items", "aee", () -> Told.kinds(z).substring(0, 3));
    }

    private static Numeraire told(Way way) {
        Numeraire x = new Numeraire();
        way.go(x);
        return x;
    }

    private static void empty() {
        List<Refused> all = new ArrayList<>();
        addNumbers(all);
        addNoContract(all, 0);
        addNoItem(all, 0);
        all.add(new Refused("30 openShare", Told.ARITHMETIC, Numeraire::openShare));
        checkAll("empty", x -> { }, all);
    }

    private static void open() {
        List<Refused> all = new ArrayList<>();
        addNumbers(all);
        addNoContract(all, Story.OPEN);
        addNoItem(all, 7);
        addTooDeep(all);
        addOtherKinds(all, 0, 1, 2);
        addOtherParty(all);
        checkAll("open", Story::open, all);
    }

    private static void crowded() {
        List<Refused> all = new ArrayList<>();
        addNumbers(all);
        addNoContract(all, 24);
        addNoItem(all, 40);
        addTooDeep(all);
        addOtherKinds(all, 0, 1, 2);
        addOtherParty(all);
        addFull(all);
        addTooManyItems(all);
        all.add(new Refused("21 choose what brings two", Told.STATE, x -> x.choose(0, true)));
        all.add(new Refused("22 use what brings two", Told.STATE, x -> x.use(1)));
        all.add(new Refused("24 next, with more than 40 items", Told.STATE, x -> x.next(true)));
        all.add(new Refused("24 next, staying, with more than 40 items", Told.STATE, x -> x.next(false)));
        checkAll("crowded", Story::crowded, all);
    }

    private static void last() {
        List<Refused> all = new ArrayList<>();
        addNumbers(all);
        addNoContract(all, 24);
        addNoItem(all, 40);
        addTooDeep(all);
        addFull(all);
        addTooManyItems(all);
        addOtherKinds(all, 1, 0, 0);
        all.add(new Refused("21 choose what brings two", Told.STATE, x -> x.choose(39, true)));
        all.add(new Refused("22 use what brings two", Told.STATE, x -> x.use(0)));
        all.add(new Refused("24 next: no day before more than 40 items", Told.UNSUPPORTED, x -> x.next(true)));
        all.add(new Refused("24 next, staying: no day before more than 40 items", Told.UNSUPPORTED, x -> x.next(false)));
        checkAll("last", Story::last, all);
    }

    /** What is refused in any state: numbers, kinds, days, levels, units and parties out of their ranges. */
    private static void addNumbers(List<Refused> all) {
        for (int n : new int[] {LOW, -2, -1, 9, 24, 40, 100, HIGH}) {
            all.add(new Refused("2 setUnit of the unit " + n, Told.ILLEGAL, x -> x.setUnit(n, 7, 7)));
            all.add(new Refused("3 worth of the unit " + n, Told.ILLEGAL, x -> x.worth(n, 0, 0)));
            all.add(new Refused("3 worth on " + n, Told.ILLEGAL, x -> x.worth(0, n, 0)));
            all.add(new Refused("3 worth at " + n, Told.ILLEGAL, x -> x.worth(0, 8, n)));
            all.add(new Refused("25 close " + n, Told.INDEX, x -> x.close(n)));
            all.add(new Refused("26 amount of " + n, Told.INDEX, x -> x.amount(n, 0)));
            all.add(new Refused("26 amount of a party and unit " + n, Told.INDEX, x -> x.amount(n, n)));
            all.add(new Refused("26 amount of the unit " + n, Told.ILLEGAL, x -> x.amount(0, n)));
            all.add(new Refused("27 wealth of " + n, Told.INDEX, x -> x.wealth(n)));
        }
        all.add(new Refused("2 setUnit of the unit 0", Told.ILLEGAL, x -> x.setUnit(0, 7, 7)));
        for (int n : new int[] {LOW, -100, 100, HIGH}) {
            all.add(new Refused("2 base " + n, Told.ILLEGAL, x -> x.setUnit(1, n, 7)));
            all.add(new Refused("2 base and unit " + n, Told.ILLEGAL, x -> x.setUnit(3, n, 7)));
        }
        for (int n : new int[] {LOW, -10, 10, HIGH}) {
            all.add(new Refused("2 slope " + n, Told.ILLEGAL, x -> x.setUnit(2, 7, n)));
        }
        for (int n : new int[] {LOW, -2, 3, HIGH}) {
            all.add(new Refused("4 one of " + n, Told.ILLEGAL, x -> x.one(n)));
        }
        for (char kind : new char[] {0, 'o', 'z', 's', 'i', 'x', 'G', Character.MAX_VALUE}) {
            for (int contract : new int[] {0, 1, -1, 24}) {
                all.add(new Refused("5 turned by " + kind + " of " + contract, Told.ILLEGAL, x -> x.turned(kind, contract)));
                all.add(new Refused("6 both by " + kind + " of " + contract, Told.ILLEGAL, x -> x.both(kind, contract, 0)));
                all.add(new Refused("6 both by " + kind + " of 0 and " + contract, Told.ILLEGAL, x -> x.both(kind, 0, contract)));
                all.add(new Refused("9 timed by " + kind + " of " + contract, Told.ILLEGAL, x -> x.timed(kind, contract, 3)));
                all.add(new Refused("9 timed by " + kind + " of " + contract + " to 9", Told.ILLEGAL, x -> x.timed(kind, contract, 9)));
            }
        }
        for (int n : new int[] {LOW, -1, 9, HIGH}) {
            for (int contract : new int[] {0, -1, 24}) {
                all.add(new Refused("8 number " + n + " of " + contract, Told.ILLEGAL, x -> x.either(n, contract, 0)));
                all.add(new Refused("8 number " + n + " of 0 and " + contract, Told.ILLEGAL, x -> x.either(n, 0, contract)));
                all.add(new Refused("9 day " + n + " of " + contract, Told.ILLEGAL, x -> x.timed('a', contract, n)));
            }
        }
    }

    /** No such contract, alone and together with all that is documented behind it; count is how many there are. */
    private static void addNoContract(List<Refused> all, int count) {
        int there = count == 0 ? -1 : 0;
        for (int n : new int[] {LOW, -1, count, 24, HIGH}) {
            all.add(new Refused("5 turned of " + n, Told.INDEX, x -> x.turned('g', n)));
            all.add(new Refused("5 turned of " + n + ", l", Told.INDEX, x -> x.turned('l', n)));
            for (int other : new int[] {there, n, count > Story.DEEPEST ? Story.DEEPEST : n}) {
                all.add(new Refused("6 both of " + n + " and " + other, Told.INDEX, x -> x.both('b', n, other)));
                all.add(new Refused("6 both of " + other + " and " + n, Told.INDEX, x -> x.both('e', other, n)));
                all.add(new Refused("8 either of " + n + " and " + other, Told.INDEX, x -> x.either(8, n, other)));
                all.add(new Refused("8 either of " + other + " and " + n, Told.INDEX, x -> x.either(0, other, n)));
            }
            all.add(new Refused("7 scaled of " + n, Told.INDEX, x -> x.scaled(n, 9)));
            all.add(new Refused("7 scaled of " + n + " by 10", Told.INDEX, x -> x.scaled(n, 10)));
            all.add(new Refused("7 scaled of " + n + " by -1", Told.INDEX, x -> x.scaled(n, -1)));
            all.add(new Refused("9 timed of " + n, Told.INDEX, x -> x.timed('w', n, 8)));
            all.add(new Refused("10 kindOf " + n, Told.INDEX, x -> x.kindOf(n)));
            all.add(new Refused("11 depthOf " + n, Told.INDEX, x -> x.depthOf(n)));
            all.add(new Refused("12 value of " + n, Told.INDEX, x -> x.value(n, 0, 0)));
            all.add(new Refused("12 value of " + n + " on 9", Told.INDEX, x -> x.value(n, 9, 0)));
            all.add(new Refused("12 value of " + n + " at -1", Told.INDEX, x -> x.value(n, 3, -1)));
            all.add(new Refused("13 valueAnew of " + n, Told.INDEX, x -> x.valueAnew(n, 0, 0)));
            all.add(new Refused("13 valueAnew of " + n + " on -1", Told.INDEX, x -> x.valueAnew(n, -1, 0)));
            all.add(new Refused("13 valueAnew of " + n + " at 4 on 3", Told.INDEX, x -> x.valueAnew(n, 3, 4)));
            all.add(new Refused("14 price of " + n, Told.INDEX, x -> x.price(n)));
            all.add(new Refused("15 acquire " + n, Told.INDEX, x -> x.acquire(n, 0, 1)));
            all.add(new Refused("15 acquire " + n + " as 4", Told.INDEX, x -> x.acquire(n, 4, 1)));
            all.add(new Refused("15 acquire " + n + " from -1", Told.INDEX, x -> x.acquire(n, 0, -1)));
            all.add(new Refused("15 acquire " + n + " from itself", Told.INDEX, x -> x.acquire(n, 2, 2)));
        }
        if (count > 0) {
            addWrongBehindContract(all);
        }
    }

    private static void addWrongBehindContract(List<Refused> all) {
        for (int n : new int[] {LOW, -1, 10, HIGH}) {
            all.add(new Refused("7 scaled by " + n, Told.ILLEGAL, x -> x.scaled(0, n)));
            all.add(new Refused("7 scaled by " + n + ", too deep", Told.ILLEGAL, x -> x.scaled(Story.DEEPEST, n)));
            all.add(new Refused("12 value on " + n, Told.ILLEGAL, x -> x.value(0, n, 0)));
            all.add(new Refused("12 value at " + n, Told.ILLEGAL, x -> x.value(0, 8, n)));
            all.add(new Refused("13 valueAnew on " + n, Told.ILLEGAL, x -> x.valueAnew(0, n, 0)));
            all.add(new Refused("13 valueAnew at " + n, Told.ILLEGAL, x -> x.valueAnew(0, 8, n)));
            all.add(new Refused("15 acquire nothing as " + n, Told.ILLEGAL, x -> x.acquire(3, n, 0)));
            all.add(new Refused("15 acquire two items from " + n, Told.ILLEGAL, x -> x.acquire(Story.PAYS_AND_STANDS, 0, n)));
        }
        for (int party = 0; party <= 3; party++) {
            int same = party;
            all.add(new Refused("15 acquire from itself, " + same, Told.ILLEGAL, x -> x.acquire(0, same, same)));
            all.add(new Refused("15 acquire two items from itself, " + same, Told.ILLEGAL, x -> x.acquire(Story.PAYS_AND_STANDS, same, same)));
        }
        int deepest = Story.DEEPEST;
        all.add(new Refused("5 a kind that is none, too deep", Told.ILLEGAL, x -> x.turned('b', deepest)));
        all.add(new Refused("6 a kind that is none, too deep", Told.ILLEGAL, x -> x.both('g', deepest, 0)));
        all.add(new Refused("8 a number that is none, too deep", Told.ILLEGAL, x -> x.either(9, 0, deepest)));
        all.add(new Refused("9 a kind that is none, too deep", Told.ILLEGAL, x -> x.timed('e', deepest, 0)));
        all.add(new Refused("9 a day that is none, too deep", Told.ILLEGAL, x -> x.timed('u', deepest, 9)));
    }

    private static void addNoItem(List<Refused> all, int count) {
        for (int n : new int[] {LOW, -1, count, 40, HIGH}) {
            all.add(new Refused("17 contractOf " + n, Told.INDEX, x -> x.contractOf(n)));
            all.add(new Refused("18 holderOf " + n, Told.INDEX, x -> x.holderOf(n)));
            all.add(new Refused("19 otherOf " + n, Told.INDEX, x -> x.otherOf(n)));
            all.add(new Refused("20 factorOf " + n, Told.INDEX, x -> x.factorOf(n)));
            all.add(new Refused("21 choose " + n, Told.INDEX, x -> x.choose(n, true)));
            all.add(new Refused("21 choose " + n + ", the second", Told.INDEX, x -> x.choose(n, false)));
            all.add(new Refused("22 use " + n, Told.INDEX, x -> x.use(n)));
            for (int party : new int[] {LOW, -1, 0, 3, 4, HIGH}) {
                all.add(new Refused("23 assign " + n + " to " + party, Told.INDEX, x -> x.assign(n, party)));
            }
        }
    }

    /** Too deep, by each method and part; in a full ledger also a pair with "there are 24 contracts". */
    private static void addTooDeep(List<Refused> all) {
        int deepest = Story.DEEPEST;
        all.add(new Refused("5 g, too deep", Told.UNSUPPORTED, x -> x.turned('g', deepest)));
        all.add(new Refused("5 l, too deep", Told.UNSUPPORTED, x -> x.turned('l', deepest)));
        for (int other : new int[] {0, deepest}) {
            all.add(new Refused("6 b, too deep", Told.UNSUPPORTED, x -> x.both('b', deepest, other)));
            all.add(new Refused("6 e, too deep", Told.UNSUPPORTED, x -> x.both('e', other, deepest)));
            all.add(new Refused("8 the first too deep", Told.UNSUPPORTED, x -> x.either(8, deepest, other)));
            all.add(new Refused("8 the second too deep", Told.UNSUPPORTED, x -> x.either(0, other, deepest)));
        }
        all.add(new Refused("7 too deep", Told.UNSUPPORTED, x -> x.scaled(deepest, 9)));
        for (char kind : "wua".toCharArray()) {
            all.add(new Refused("9 " + kind + ", too deep", Told.UNSUPPORTED, x -> x.timed(kind, deepest, 0)));
        }
    }

    private static void addFull(List<Refused> all) {
        for (int unit = -1; unit <= 2; unit++) {
            int each = unit;
            all.add(new Refused("4 a 25th, of " + unit, Told.STATE, x -> x.one(each)));
        }
        for (int contract : new int[] {0, 9, 23}) {
            all.add(new Refused("5 a 25th g", Told.STATE, x -> x.turned('g', contract)));
            all.add(new Refused("5 a 25th l", Told.STATE, x -> x.turned('l', contract)));
            all.add(new Refused("6 a 25th b", Told.STATE, x -> x.both('b', contract, 0)));
            all.add(new Refused("6 a 25th e", Told.STATE, x -> x.both('e', 0, contract)));
            all.add(new Refused("7 a 25th", Told.STATE, x -> x.scaled(contract, 0)));
            all.add(new Refused("8 a 25th", Told.STATE, x -> x.either(0, contract, contract)));
            all.add(new Refused("9 a 25th w", Told.STATE, x -> x.timed('w', contract, 0)));
            all.add(new Refused("9 a 25th u", Told.STATE, x -> x.timed('u', contract, 8)));
            all.add(new Refused("9 a 25th a", Told.STATE, x -> x.timed('a', contract, 4)));
        }
        all.add(new Refused("4 no unit, and 24", Told.ILLEGAL, x -> x.one(3)));
        all.add(new Refused("4 no unit below, and 24", Told.ILLEGAL, x -> x.one(-2)));
        all.add(new Refused("7 no number, and 24", Told.ILLEGAL, x -> x.scaled(0, 10)));
    }

    private static void addTooManyItems(List<Refused> all) {
        for (int contract : new int[] {4, 5, Story.PAYS_AND_STANDS, 8, 9, 10, 11, 12, 16, 18, 21, 22}) {
            all.add(new Refused("15 a 41st by " + contract, Told.STATE, x -> x.acquire(contract, 1, 2)));
        }
    }

    /** An item of another kind, also where a choice or use of it would bring two items more. */
    private static void addOtherKinds(List<Refused> all, int choice, int may, int later) {
        all.add(new Refused("21 choose an a", Told.UNSUPPORTED, x -> x.choose(may, true)));
        all.add(new Refused("21 choose the second of an a", Told.UNSUPPORTED, x -> x.choose(may, false)));
        all.add(new Refused("21 choose a w", Told.UNSUPPORTED, x -> x.choose(later, true)));
        all.add(new Refused("22 use an e", Told.UNSUPPORTED, x -> x.use(choice)));
        if (later != may) {
            all.add(new Refused("22 use a w", Told.UNSUPPORTED, x -> x.use(later)));
        }
    }

    /** The items 0, 1 and 2 are held by 0, 1 and 2, from 1, 2 and 3. */
    private static void addOtherParty(List<Refused> all) {
        for (int item = 0; item <= 2; item++) {
            int each = item;
            for (int party : new int[] {LOW, -1, item + 1, 4, HIGH}) {
                all.add(new Refused("23 assign " + item + " to " + party, Told.ILLEGAL, x -> x.assign(each, party)));
            }
        }
    }

    private static void checkAll(String state, Way way, List<Refused> all) {
        String[] looks = new String[Story.PARTS];
        for (int part = 0; part < Story.PARTS; part++) {
            looks[part] = Story.look(told(way), part);
        }
        String later = Story.later(told(way));
        for (int i = 0; i < all.size(); i++) {
            Refused each = all.get(i);
            String what = state + ": " + each.what;
            // Which part is looked at goes round, and those that a refused call could most easily change are looked at each time.
            int[] parts = {0, 2, 1 + i % (Story.PARTS - 1)};
            for (int part : parts) {
                Numeraire x = told(way);
                check.due(what, "throws." + each.exception, () -> each.call.answer(x));
                check.due(what + ", and then", looks[part], () -> Story.look(x, part));
            }
            Numeraire x = told(way);
            check.due(what + ", once", "throws." + each.exception, () -> each.call.answer(x));
            check.due(what + ", twice", "throws." + each.exception, () -> each.call.answer(x));
            check.due(what + ", and later", later, () -> Story.later(x));
        }
        checkMany(state, way, all, looks, later);
    }

    /** Many refused calls one behind the other are as none, too. */
    private static void checkMany(String state, Way way, List<Refused> all, String[] looks, String later) {
        int many = 100;
        for (int from = 0; from < all.size(); from += many) {
            Numeraire x = told(way);
            Numeraire y = told(way);
            for (Refused each : all.subList(from, Math.min(all.size(), from + many))) {
                check.due(state + ", many: " + each.what, "throws." + each.exception, () -> each.call.answer(x));
                Check.told(() -> each.call.answer(y));
            }
            check.due(state + " behind many", looks[0], () -> Story.look(x, 0));
            check.due(state + " later behind many", later, () -> Story.later(y));
        }
    }
}
