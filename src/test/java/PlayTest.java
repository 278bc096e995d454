import java.util.ArrayList;
import java.util.List;
import java.util.Random;

/**
 * What a contract is worth to who acquires it, found without asking for any value: the ledger is played on to the day 8,
 * who may choose tries all there is, the days go by both ways, and in the end the amounts are counted.
 */
public final class PlayTest {
    private static final int RANDOM_CONTRACTS = 2000;
    /** A contract made at random that needs more turns than this is left out. */
    private static final int MOST_TURNS = 20000;
    /** So many contracts made at random must be worth something and need many turns. */
    private static final int LEAST_PLAYED = 250;
    private static final int MANY_TURNS = 40;
    private static final String KINDS = "ozgbesliwuaewagwab";
    /** Base and slope of the unit 1, and of the unit 2. */
    private static final int[][] UNITS = {{3, 2, -1, 3}, {-2, 3, 1, -2}, {1, -1, 2, 0}, {0, 4, 0, -4}};

    private static final Check check = new Check("PlayTest");

    /** A call on a ledger that stands at the beginning, or goes on from there. */
    private interface Act {
        void on(Numeraire x);
    }

    /** Makes contracts and tells the number of the one that is acquired. */
    private interface Maker {
        int make(Numeraire x);
    }

    private final List<Act> acts = new ArrayList<>();
    private int turns = 0;

    private PlayTest() {
    }

    public static void main(String[] args) {
        eachKind();
        timed();
        chosenByOneAndTheOther();
        int many = 0;
        for (int run = 0; run < RANDOM_CONTRACTS; run++) {
            if (playedAtRandom(run) > MANY_TURNS) {
                many++;
            }
        }
        int all = many;
        check.due("enough contracts were played in many turns", true, () -> all >= LEAST_PLAYED);
        check.end();
    }

    private static void eachKind() {
        played("o", 0, 0, 0, x -> x.one(1));
        played("z", 0, 0, 0, x -> x.one(-1));
        played("g", 0, 4, 1, x -> x.turned('g', x.one(1)));
        played("l", 0, 4, 3, x -> x.turned('l', x.one(2)));
        played("b", 0, 5, 5, x -> x.both('b', x.one(1), x.one(2)));
        played("s", 0, 6, 2, x -> x.scaled(x.one(2), 9));
        played("i, not less", 0, 6, 2, x -> x.either(2, x.one(2), x.one(1)));
        played("i, less", 0, 6, 1, x -> x.either(2, x.one(2), x.one(1)));
        played("e", 0, 3, 1, x -> x.both('e', x.one(2), x.one(1)));
        for (int day = 0; day <= 8; day++) {
            int last = day;
            played("w to " + last, 0, 2, 1, x -> x.timed('w', x.either(2, x.one(2), x.one(1)), last));
            played("u to " + last, 0, 5, 3, x -> x.timed('u', x.one(1), last));
            played("a to " + last, 0, 2, 1, x -> x.timed('a', x.one(1), last));
        }
    }

    private static void timed() {
        played("a of what is worth something half the time", 0, 0, 0, x -> x.timed('a', x.one(1), 8));
        played("a that may be used a day before at most", 0, 0, 0, x -> x.timed('a', x.one(2), 7));
        played("a of what ends before", 1, 2, 1, x -> x.timed('a', x.timed('u', x.one(1), 4), 8));
        played("a of what comes on a day", 1, 3, 1, x -> x.timed('a', x.timed('w', x.turned('l', x.one(1)), 6), 7));
        played("what may be acquired from a day on", 2, 1, 0, x -> x.timed('w', x.timed('a', x.one(1), 6), 4));
        played("w of l and l of w", 3, 2, 1, x -> x.both('b', x.timed('w', x.turned('l', x.one(1)), 7), x.turned('l', x.timed('w', x.one(2), 7))));
        played("a of l and l of a", 4, 4, 2, x -> x.both('b', x.timed('a', x.turned('l', x.one(1)), 6), x.turned('g', x.turned('l', x.timed('a', x.one(2), 6)))));
        played("a of a", 5, 4, 3, x -> x.timed('a', x.timed('a', x.one(1), 6), 7));
        played("w of w, the inner one later", 6, 0, 0, x -> x.timed('w', x.timed('w', x.one(1), 7), 3));
        played("w of w, the inner one before", 6, 1, 1, x -> x.timed('w', x.timed('w', x.turned('l', x.one(1)), 3), 7));
    }

    private static void chosenByOneAndTheOther() {
        played("e on a later day", 0, 1, 0, x -> x.timed('w', x.both('e', x.one(1), x.one(2)), 7));
        played("e of two later ones", 0, 1, 0, x -> x.both('e', x.timed('w', x.one(1), 7), x.timed('w', x.one(2), 7)));
        played("e that the other one chooses", 1, 3, 1, x -> x.turned('g', x.timed('w', x.both('e', x.one(1), x.one(2)), 5)));
        played("a that the other one may use", 2, 2, 1, x -> x.turned('g', x.timed('a', x.one(1), 8)));
        played("a of e, of which the other one chooses", 5, 4, 1, x -> x.timed('a', x.turned('g', x.both('e', x.one(1), x.one(2))), 8));
        played("e of a, either of one", 4, 5, 1, x -> x.both('e', x.timed('a', x.one(1), 7), x.turned('g', x.timed('a', x.one(2), 8))));
        played("a of what the other one may use", 6, 4, 1, x -> x.timed('a', x.both('b', x.one(0), x.turned('g', x.timed('a', x.one(1), 8))), 7));
        played("e of e of e", 6, 7, 3, x -> {
            int inner = x.both('e', x.one(1), x.turned('g', x.both('e', x.one(2), x.one(0))));
            return x.both('e', x.scaled(inner, 3), x.turned('l', inner));
        });
    }

    private static void played(String what, int units, int day, int level, Maker maker) {
        PlayTest test = new PlayTest();
        test.playAll(what, UNITS[units % UNITS.length], day, level, maker);
        check.due(what + " was played to its end", true, () -> test.turns <= MOST_TURNS);
    }

    /** Plays a contract that the party 0 acquires from the party 1 on a day, at a level, and answers what it is worth. */
    private long playAll(String what, int[] units, int day, int level, Maker maker) {
        Numeraire x = new Numeraire();
        int contract = maker.make(x);
        acts.add(maker::make);
        act(x, y -> y.setUnit(1, units[0], units[1]));
        act(x, y -> y.setUnit(2, units[2], units[3]));
        long value = x.value(contract, day, level);
        for (int i = 0; i < day; i++) {
            boolean isUp = i < level;
            act(x, y -> y.next(isUp));
        }
        act(x, y -> y.acquire(contract, 0, 1));
        check.due(what + ", the holder's wealth", value, () -> x.wealth(0));
        check.due(what + ", the other party's wealth", -value, () -> x.wealth(1));
        long end = play(0);
        if (turns <= MOST_TURNS) {
            check.due(what + ", played to its end", end, () -> value);
        }
        return value;
    }

    private void act(Numeraire x, Act act) {
        acts.add(act);
        act.on(x);
    }

    /**
     * What all comes to for the party 0, times 2 to the power of 8 less the day that it is behind the acts; the items
     * before one number have been thought of today. The party 1 wants it to be as little as it can be.
     */
    private long play(int thoughtOf) {
        turns++;
        if (turns > MOST_TURNS) {
            return 0;
        }
        Numeraire x = new Numeraire();
        for (Act act : acts) {
            act.on(x);
        }
        int item = thoughtOf;
        while (item < x.items() && x.kindOf(x.contractOf(item)) == 'w') {
            item++;
        }
        if (item < x.items()) {
            return chosen(x, item);
        }
        if (x.now() / 10 == 8) {
            return counted(x);
        }
        return behind(y -> y.next(false), 0) + behind(y -> y.next(true), 0);
    }

    private long chosen(Numeraire x, int item) {
        boolean isChoice = x.kindOf(x.contractOf(item)) == 'e';
        long one = isChoice ? behind(y -> y.choose(item, true), item) : behind(y -> y.use(item), item);
        long other = isChoice ? behind(y -> y.choose(item, false), item) : play(item + 1);
        return x.holderOf(item) == 0 ? Math.max(one, other) : Math.min(one, other);
    }

    private long behind(Act act, int thoughtOf) {
        acts.add(act);
        long end = play(thoughtOf);
        acts.remove(acts.size() - 1);
        return end;
    }

    private static long counted(Numeraire x) {
        long sum = 0;
        for (int unit = 0; unit <= 2; unit++) {
            sum += x.amount(0, unit) * x.worth(unit, 8, x.now() % 10);
        }
        return sum;
    }

    /** How many turns a contract needed that is worth something, otherwise 0. */
    private static int playedAtRandom(int run) {
        Random random = new Random(run);
        int day = 3 + random.nextInt(6);
        int level = random.nextInt(day + 1);
        int size = 6 + random.nextInt(12);
        int[] units = {random.nextInt(19) - 9, random.nextInt(9) - 4, random.nextInt(19) - 9, random.nextInt(9) - 4};
        long seed = random.nextLong();
        PlayTest test = new PlayTest();
        long value = test.playAll("run " + run, units, day, level, x -> makeAtRandom(x, size, new Random(seed)));
        return value == 0 || test.turns > MOST_TURNS ? 0 : test.turns;
    }

    private static int makeAtRandom(Numeraire x, int size, Random random) {
        int last = x.one(random.nextInt(3));
        x.one(1);
        for (int tries = 0; tries < 60 && last < size; tries++) {
            char kind = KINDS.charAt(random.nextInt(KINDS.length()));
            int first = Math.max(0, last - random.nextInt(3));
            int second = random.nextInt(last + 1);
            int number = random.nextInt(9);
            String made = Check.told(() -> make(x, kind, first, second, number));
            last = made.startsWith("throws") ? last : Integer.parseInt(made);
        }
        return last;
    }

    private static int make(Numeraire x, char kind, int first, int second, int number) {
        switch (kind) {
            case 'o':
                return x.one(1 + number % 2);
            case 'z':
                return x.one(-1);
            case 'g':
            case 'l':
                return x.turned(kind, first);
            case 'b':
            case 'e':
                return x.both(kind, first, second);
            case 's':
                return x.scaled(first, number);
            case 'i':
                return x.either(number, first, second);
            default:
                return x.timed(kind, first, number);
        }
    }
}
