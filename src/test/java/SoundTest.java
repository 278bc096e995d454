import java.lang.reflect.Field;

/**
 * That isSound answers false. No run of calls brings an unsound ledger about, so the rows inside of the object are spoilt
 * here by reflection; the test names private fields, and must follow them if they are named anew.
 */
public final class SoundTest {
    private static final Check check = new Check("SoundTest");

    private SoundTest() {
    }

    public static void main(String[] args) throws ReflectiveOperationException {
        for (int contract = 0; contract < 24; contract++) {
            values(contract);
        }
        for (int party = 0; party < 4; party++) {
            for (int unit = 0; unit < 3; unit++) {
                amounts(party, unit);
            }
        }
        worths();
        amountsAlone();
        eachContract();
        check.end();
    }

    private static Numeraire ledger() {
        Numeraire x = new Numeraire();
        Story.crowded(x);
        check.due("31 sound before", true, x::isSound);
        return x;
    }

    private static Object inside(Object from, String name) throws ReflectiveOperationException {
        Field field = from.getClass().getDeclaredField(name);
        field.setAccessible(true);
        return field.get(from);
    }

    /** The day is 1 and the level 1: the place 10 of the tree, with a value for each of the 24 contracts. */
    private static void values(int contract) throws ReflectiveOperationException {
        Numeraire x = ledger();
        long[] tree = (long[]) inside(inside(x, "values"), "tree");
        int now = 10 * 24 + contract;
        check.due("31 the place of what is now", tree[now], () -> x.value(contract, 1, 1));
        tree[now]++;
        check.due("31 the value of " + contract + " by the tree is 1 more", false, x::isSound);
        tree[now] -= 2;
        check.due("31 the value of " + contract + " by the tree is 1 less", false, x::isSound);
        tree[now]++;
        check.due("31 mended", true, x::isSound);
        tree[contract]++;
        check.due("31 the value on the day before does not matter", true, x::isSound);
    }

    private static void amounts(int party, int unit) throws ReflectiveOperationException {
        Numeraire x = ledger();
        x.setUnit(1, 1, 0);
        x.setUnit(2, 1, 0);
        long[] amounts = (long[]) inside(inside(x, "state"), "amounts");
        int place = 3 * party + unit;
        amounts[place] += 5;
        check.due("31 " + party + " has 5 of " + unit + " that nobody gave", false, x::isSound);
        int other = 3 * ((party + 1) % 4) + (unit + 1) % 3;
        amounts[other] -= 5;
        check.due("31 nor by 5 less of another unit that is worth as much", false, x::isSound);
        amounts[other] += 5;
        amounts[3 * ((party + 2) % 4) + unit] -= 5;
        check.due("31 of another party is sound", true, x::isSound);
    }

    private static void worths() throws ReflectiveOperationException {
        Numeraire x = ledger();
        int[] holders = (int[]) inside(inside(inside(x, "state"), "items"), "holders");
        int before = holders[1];
        holders[1] = 4;
        check.due("31 an item that nobody holds", false, x::isSound);
        holders[1] = before;
        check.due("31 an item that somebody holds", true, x::isSound);
    }

    /** What nobody holds is worth as much as an amount that nobody gave: what the parties are worth adds up to 0 all the same. */
    private static void amountsAlone() throws ReflectiveOperationException {
        for (int unit = 0; unit < 3; unit++) {
            Numeraire x = new Numeraire();
            x.acquire(x.timed('w', x.one(0), 8), 0, 1);
            int[] holders = (int[]) inside(inside(inside(x, "state"), "items"), "holders");
            long[] amounts = (long[]) inside(inside(x, "state"), "amounts");
            holders[0] = 4;
            amounts[3 * 2 + unit]++;
            check.due("31 what the parties are worth in all", 0L, () -> x.wealth(0) + x.wealth(1) + x.wealth(2) + x.wealth(3));
            check.due("31 one of " + unit + " that nobody gave", false, x::isSound);
        }
    }

    /** Sound with any number of contracts, and unsound by the last one alone. */
    private static void eachContract() throws ReflectiveOperationException {
        for (int count = 0; count <= 24; count++) {
            Numeraire x = new Numeraire();
            for (int contract = 0; contract < count; contract++) {
                x.one(0);
            }
            check.due("31 with " + count + " contracts", true, x::isSound);
            long[] tree = (long[]) inside(inside(x, "values"), "tree");
            tree[count == 0 ? 0 : count - 1]++;
            check.due("31 with " + count + " contracts, the last one spoilt", count == 0, x::isSound);
        }
    }
}
