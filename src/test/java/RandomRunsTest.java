import java.util.Random;

/** Runs of 512 calls at most, right and wrong ones, answered by the program and by the model alike. */
public final class RandomRunsTest {
    private static final int RUNS = 9000;
    private static final int MOST_CALLS = 512;
    /** How many calls a look at all takes, with 40 items and 24 contracts, and any call before it. */
    private static final int LOOK = 230;
    private static final int[] EDGES = {Integer.MIN_VALUE, -100, -99, -10, -9, -2, -1, 0, 1, 2, 3, 4, 8, 9, 10, 24, 40, 99, 100, Integer.MAX_VALUE};

    private final Random random;
    private final Check check;
    private final int run;
    private final Numeraire x = new Numeraire();
    private final Model m = new Model();
    private final int wrongness;
    private final boolean isCrowded;
    private int made = 0;
    private int asked = 0;

    private RandomRunsTest(Check check, int run) {
        this.check = check;
        this.run = run;
        random = new Random(run);
        wrongness = random.nextInt(3) == 0 ? 20 : 3;
        isCrowded = random.nextInt(3) == 0;
    }

    public static void main(String[] args) {
        Check check = new Check("RandomRunsTest");
        for (int run = 0; run < RUNS && check.isAllRight(); run++) {
            new RandomRunsTest(check, run).go();
        }
        check.end();
    }

    private void go() {
        if (isCrowded) {
            startCrowd();
        }
        for (int turn = 0; turn < MOST_CALLS && asked < MOST_CALLS - LOOK && check.isAllRight(); turn++) {
            int kind = random.nextInt(100);
            if (kind < (made == 24 ? 1 : turn < 40 && !isCrowded ? 80 : 10)) {
                build();
            } else if (kind < 30) {
                acquire();
                lookAtFigures();
            } else if (kind < 60) {
                act();
                lookAtFigures();
            } else if (kind < (isCrowded && turn % 32 != 31 ? 62 : 68)) {
                goOn();
                lookAtFigures();
            } else if (kind < 73) {
                setUnit();
            } else {
                look();
            }
        }
        lookAtAll();
        int calls = asked;
        check.due("run " + run + " is not longer than is promised", true, () -> calls <= MOST_CALLS);
    }

    /** Contracts by which many items come at once, today or on a later day. */
    private void startCrowd() {
        int day = 1 + random.nextInt(8);
        char[] kinds = {random.nextBoolean() ? 'a' : 'w', random.nextBoolean() ? 'a' : 'w'};
        same("one(1)", Check.told(() -> m.one(1)), () -> x.one(1));
        for (int i = 0; i < 4; i++) {
            int each = i;
            char kind = i == 0 ? 'e' : 'b';
            same("both(" + kind + ", " + each + ", " + each + ")", Check.told(() -> m.both(kind, each, each)), () -> x.both(kind, each, each));
        }
        for (char kind : kinds) {
            same("timed(" + kind + ", 4, " + day + ")", Check.told(() -> m.timed(kind, 4, day)), () -> x.timed(kind, 4, day));
        }
        same("both('e', 4, 3)", Check.told(() -> m.both('e', 4, 3)), () -> x.both('e', 4, 3));
        made = m.contracts();
    }

    /** One call of the program. */
    private void same(String what, String want, Check.Call call) {
        asked++;
        check.due("run " + run + ": " + what, want, call);
    }

    private boolean isWild() {
        return random.nextInt(100) < wrongness;
    }

    private int number(int least, int most) {
        return isWild() ? EDGES[random.nextInt(EDGES.length)] : least + random.nextInt(Math.max(1, most - least + 1));
    }

    private int contract() {
        if (isCrowded && made > 3 && random.nextInt(2) == 0) {
            return number(made - 3, made - 1);
        }
        return number(0, made - 1);
    }

    private int item() {
        return number(0, m.items() - 1);
    }

    private char kind(String kinds) {
        return isWild() ? "ozgbesliwua\0"
            .charAt(random.nextInt(12)) : kinds.charAt(random.nextInt(kinds.length()));
    }

    private void build() {
        int first = contract();
        int second = contract();
        switch (random.nextInt(isCrowded ? 9 : 7)) {
            case 0 -> {
                int unit = number(-1, 2);
                same("one(" + unit + ")", Check.told(() -> m.one(unit)), () -> x.one(unit));
            }
            case 1 -> {
                char kind = kind("gl");
                same("turned(" + kind + ", " + first + ")", Check.told(() -> m.turned(kind, first)), () -> x.turned(kind, first));
            }
            case 2 -> {
                int number = number(0, 9);
                same("scaled(" + first + ", " + number + ")", Check.told(() -> m.scaled(first, number)), () -> x.scaled(first, number));
            }
            case 3 -> {
                int number = number(0, 8);
                same("either(" + number + ", " + first + ", " + second + ")", Check.told(() -> m.either(number, first, second)), () -> x.either(number, first, second));
            }
            case 4, 5 -> {
                int day = number(0, 8);
                char kind = kind("wuawa");
                same("timed(" + kind + ", " + first + ", " + day + ")", Check.told(() -> m.timed(kind, first, day)), () -> x.timed(kind, first, day));
            }
            default -> {
                char kind = kind(isCrowded ? "bbbe" : "bee");
                same("both(" + kind + ", " + first + ", " + second + ")", Check.told(() -> m.both(kind, first, second)), () -> x.both(kind, first, second));
            }
        }
        made = m.contracts();
    }

    private void acquire() {
        int contract = contract();
        int holder = number(0, 3);
        int other = holder >= 0 && holder <= 3 && !isWild() ? (holder + 1 + random.nextInt(3)) % 4 : number(0, 3);
        same("acquire(" + contract + ", " + holder + ", " + other + ")", Check.told(() -> m.acquire(contract, holder, other)), () -> x.acquire(contract, holder, other));
    }

    private void act() {
        int item = item();
        switch (random.nextInt(8)) {
            case 0 -> closeAtTimes();
            case 1, 2 -> {
                int party = number(0, 3);
                same("assign(" + item + ", " + party + ")", Check.told(() -> m.assign(item, party)), () -> x.assign(item, party));
            }
            default -> chooseOrUse(item);
        }
    }

    /** Where many items should stand, closing comes more seldom. */
    private void closeAtTimes() {
        if (!isCrowded || random.nextInt(4) == 0) {
            int party = number(0, 3);
            same("close(" + party + ")", Check.told(() -> m.close(party)), () -> x.close(party));
        }
    }

    /** Mostly what the item's kind allows. */
    private void chooseOrUse(int item) {
        boolean isThere = item >= 0 && item < m.items();
        boolean isKnown = isThere && !isWild() && m.kindOf(m.contractOf(item)) != 'w';
        boolean isChoice = isKnown ? m.kindOf(m.contractOf(item)) == 'e' : random.nextBoolean();
        if (isChoice) {
            boolean isFirst = random.nextBoolean();
            same("choose(" + item + ", " + isFirst + ")", Check.told(() -> m.choose(item, isFirst)), () -> x.choose(item, isFirst));
        } else {
            same("use(" + item + ")", Check.told(() -> m.use(item)), () -> x.use(item));
        }
    }

    private void goOn() {
        boolean isUp = random.nextInt(3) != 0;
        same("next(" + isUp + ")", Check.told(() -> m.next(isUp)), () -> x.next(isUp));
    }

    private void setUnit() {
        int unit = number(1, 2);
        int base = number(-99, 99);
        int slope = number(-9, 9);
        same("setUnit(" + unit + ", " + base + ", " + slope + ")", Check.told(() -> m.setUnit(unit, base, slope)), () -> x.setUnit(unit, base, slope));
    }

    private void look() {
        int contract = contract();
        int item = item();
        int day = number(0, 8);
        int level = number(0, day >= 0 && day <= 8 ? day : 8);
        int party = number(0, 3);
        int unit = number(0, 2);
        switch (random.nextInt(9)) {
            case 0 -> same("worth(" + unit + ", " + day + ", " + level + ")", Check.told(() -> m.worth(unit, day, level)), () -> x.worth(unit, day, level));
            case 1 -> {
                same("kindOf(" + contract + ")", Check.told(() -> m.kindOf(contract)), () -> x.kindOf(contract));
                same("depthOf(" + contract + ")", Check.told(() -> m.depthOf(contract)), () -> x.depthOf(contract));
            }
            case 2 -> same("value(" + contract + ", " + day + ", " + level + ")", Check.told(() -> m.value(contract, day, level)), () -> x.value(contract, day, level));
            case 3 -> same("valueAnew(" + contract + ", " + day + ", " + level + ")", Check.told(() -> m.value(contract, day, level)), () -> x.valueAnew(contract, day, level));
            case 4 -> same("price(" + contract + ")", Check.told(() -> m.price(contract) + 0.0), () -> x.price(contract));
            case 5 -> lookAtItem(item);
            case 6 -> same("amount(" + party + ", " + unit + ")", Check.told(() -> m.amount(party, unit)), () -> x.amount(party, unit));
            case 7 -> same("wealth(" + party + ")", Check.told(() -> m.wealth(party)), () -> x.wealth(party));
            default -> same("openShare()", Check.told(m::openShare), x::openShare);
        }
    }

    private void lookAtItem(int item) {
        same("contractOf(" + item + ")", Check.told(() -> m.contractOf(item)), () -> x.contractOf(item));
        same("holderOf(" + item + ")", Check.told(() -> m.holderOf(item)), () -> x.holderOf(item));
        same("otherOf(" + item + ")", Check.told(() -> m.otherOf(item)), () -> x.otherOf(item));
        same("factorOf(" + item + ")", Check.told(() -> m.factorOf(item)), () -> x.factorOf(item));
    }

    private void lookAtFigures() {
        same("items()", Check.told(m::items), x::items);
        same("moves()", Check.told(m::moves), x::moves);
    }

    private void lookAtAll() {
        lookAtFigures();
        same("now()", Check.told(m::now), x::now);
        same("isSound()", "true", x::isSound);
        same("openShare()", Check.told(m::openShare), x::openShare);
        for (int i = -1; i <= m.items(); i++) {
            lookAtItem(i);
        }
        for (int i = 0; i < 4; i++) {
            int party = i;
            same("wealth(" + party + ")", Check.told(() -> m.wealth(party)), () -> x.wealth(party));
            for (int u = 0; u < 3; u++) {
                int unit = u;
                same("amount(" + party + ", " + unit + ")", Check.told(() -> m.amount(party, unit)), () -> x.amount(party, unit));
            }
        }
        for (int i = 0; i <= made; i++) {
            int contract = i;
            same("price(" + contract + ")", Check.told(() -> m.price(contract) + 0.0), () -> x.price(contract));
        }
    }
}
