/** "Days and levels", "Units", "Contracts" and "Values", sentence by sentence. */
final class ContractTerms {
    private final Terms t;

    ContractTerms(Terms t) {
        this.t = t;
    }

    void all() {
        days();
        levels();
        equallyLikely();
        atFirst();
        units();
        worths();
        unitNought();
        unitsAtFirst();
        numbersOfContracts();
        earlierParts();
        depths();
        parties();
        unitAndNothing();
        turnedRound();
        both();
        either();
        scaled();
        leveled();
        byLevel();
        onDay();
        untilDay();
        mayAcquire();
        values();
        timedValues();
        chosenValues();
        wholeNumbers();
    }

    private void days() {
        t.says("There are the days 0 to 8.");
        Numeraire x = new Numeraire();
        int unit = x.one(0);
        for (int d = 0; d <= 8; d++) {
            int day = d;
            t.due("worth on " + day, 1, () -> x.worth(0, day, 0));
            t.value("a unit", x, unit, day, 0, 1L << (8 - day));
            t.due("timed to " + day, day + 1, () -> x.timed('w', unit, day));
        }
        for (int day : Told.outside(0, 8)) {
            t.refused("worth on " + day, Told.ILLEGAL, () -> x.worth(0, day, 0));
            t.refused("value on " + day, Told.ILLEGAL, () -> x.value(unit, day, 0));
            t.refused("valueAnew on " + day, Told.ILLEGAL, () -> x.valueAnew(unit, day, 0));
            t.refused("timed to " + day, Told.ILLEGAL, () -> x.timed('w', unit, day));
        }
        for (int day = 1; day <= 8; day++) {
            t.due("next to " + day, "0 " + 10 * day, () -> x.next(false) + " " + x.now());
        }
        t.refused("a ninth next", Told.UNSUPPORTED, () -> x.next(false));
        t.refused("a ninth next, up", Told.UNSUPPORTED, () -> x.next(true));
        t.due("the last day stays", 80, x::now);
    }

    private void levels() {
        t.says("On the day d the level is from 0 to d; with each next day it stays, or becomes 1 higher.");
        for (int d = 0; d <= 8; d++) {
            int day = d;
            Numeraire x = new Numeraire();
            int unit = x.one(0);
            for (int l = 0; l <= day; l++) {
                int level = l;
                t.due("worth on " + day + " at " + level, 1, () -> x.worth(0, day, level));
                t.value("a unit", x, unit, day, level, 1L << (8 - day));
            }
            for (int level : Told.outside(0, day)) {
                t.refused("worth on " + day + " at " + level, Told.ILLEGAL, () -> x.worth(0, day, level));
                t.refused("value on " + day + " at " + level, Told.ILLEGAL, () -> x.value(unit, day, level));
                t.refused("valueAnew on " + day + " at " + level, Told.ILLEGAL, () -> x.valueAnew(unit, day, level));
            }
            for (int l = 0; l <= day; l++) {
                int level = l;
                Numeraire y = new Numeraire();
                Told.goTo(y, day, level);
                t.due("the day " + day + " and the level " + level, 10 * day + level, y::now);
            }
        }
        Numeraire z = new Numeraire();
        StringBuilder seen = new StringBuilder();
        for (int day = 0; day < 8; day++) {
            z.next(day % 2 == 1);
            seen.append(z.now()).append(' ');
        }
        t.due("down and up", "10 21 31 42 52 63 73 84 ", seen::toString);
    }

    private void equallyLikely() {
        t.says("From each day on to the next one, both are equally likely.");
        long[] waysToAtLeast = {256, 255, 247, 219, 163, 93, 37, 9, 1};
        long[] waysFromDay4 = {1, 5, 11, 15, 16};
        for (int number = 0; number <= 8; number++) {
            Numeraire x = new Numeraire();
            int high = x.either(number, x.one(0), x.one(-1));
            int last = x.timed('w', high, 8);
            t.value("1 at the level " + number, x, last, 0, 0, waysToAtLeast[number]);
            if (number == 4) {
                for (int level = 0; level <= 4; level++) {
                    t.value("1 at the level 4", x, last, 4, level, waysFromDay4[level]);
                }
            }
            if (number == 1) {
                int next = x.timed('w', high, 1);
                t.value("1 if it goes up", x, next, 0, 0, 128);
                int nextDown = x.timed('w', x.either(1, x.one(-1), 0), 1);
                t.value("1 if it stays", x, nextDown, 0, 0, 128);
            }
        }
    }

    private void atFirst() {
        t.says("At first it is the day 0, and the level 0.");
        Numeraire x = new Numeraire();
        t.due("now", 0, x::now);
        x.acquire(x.turned('l', x.one(0)), 0, 1);
        x.acquire(x.timed('w', 0, 0), 2, 3);
        t.due("by what it does", "0 0 0, 0 0 0, 1 0 0, -1 0 0", () -> Told.amounts(x));
    }

    private void units() {
        t.says("There are the units 0, 1 and 2.");
        Numeraire x = new Numeraire();
        for (int u = 0; u <= 2; u++) {
            int unit = u;
            t.due("worth of " + unit, 1, () -> x.worth(unit, 0, 0));
            t.due("one of " + unit, unit, () -> x.one(unit));
            t.due("amount of " + unit, 0, () -> x.amount(0, unit));
        }
        for (int unit : Told.outside(0, 2)) {
            t.refused("worth of " + unit, Told.ILLEGAL, () -> x.worth(unit, 0, 0));
            t.refused("amount of " + unit, Told.ILLEGAL, () -> x.amount(0, unit));
        }
        for (int unit : Told.outside(-1, 2)) {
            t.refused("one of " + unit, Told.ILLEGAL, () -> x.one(unit));
        }
        t.due("-1 is none, but z", "3 z", () -> x.one(-1) + " " + x.kindOf(3));
    }

    private void worths() {
        t.says("A unit has a base and a slope; what one of it is worth in the unit 0, on a day and at a level, is the base plus the slope times"
            + " 2 times the level less the day.");
        int[] bases = {-99, 0, 99};
        int[] slopes = {-9, 0, 9};
        Numeraire x = new Numeraire();
        int made = x.one(2);
        for (int base : bases) {
            for (int slope : slopes) {
                x.setUnit(2, base, slope);
                for (int d = 0; d <= 8; d += 4) {
                    int day = d;
                    for (int l = 0; l <= day; l += 2) {
                        int level = l;
                        long want = base + slope * (level - (day - level));
                        t.due("worth of " + base + ", " + slope + " on " + day + " at " + level, want, () -> x.worth(2, day, level));
                        t.value("one of " + base + ", " + slope, x, made, day, level, want * (256 >> day));
                    }
                }
            }
        }
        t.due("most", 171, () -> x.worth(2, 8, 8));
        t.due("half up", 99, () -> x.worth(2, 8, 4));
        t.due("none up", 27, () -> x.worth(2, 8, 0));
        t.due("an odd day", 90, () -> x.worth(2, 7, 3));
        x.setUnit(2, -99, 9);
        t.due("least", -171, () -> x.worth(2, 8, 0));
        Told.goTo(x, 3, 2);
        t.due("now, on 3 at 2", 7, () -> x.setUnit(1, 3, 4));
        t.due("now, falling", -1, () -> x.setUnit(1, 3, -4));
    }

    private void unitNought() {
        t.says("The unit 0 is always worth 1.");
        Numeraire x = new Numeraire();
        int unit = x.one(0);
        for (int round = 0; round < 2; round++) {
            for (int d = 0; d <= 8; d++) {
                int day = d;
                for (int l = 0; l <= day; l += 2) {
                    int level = l;
                    t.due("on " + day + " at " + level, 1, () -> x.worth(0, day, level));
                    t.value("one", x, unit, day, level, 1L << (8 - day));
                }
            }
            x.setUnit(1, 99, 9);
            x.setUnit(2, -99, -9);
            t.refused("setting it", Told.ILLEGAL, () -> x.setUnit(0, 2, 3));
            t.refused("setting it as it is", Told.ILLEGAL, () -> x.setUnit(0, 1, 0));
        }
    }

    private void unitsAtFirst() {
        t.says("At first all units have the base 1 and the slope 0.");
        for (int u = 0; u <= 2; u++) {
            int unit = u;
            Numeraire x = new Numeraire();
            int made = x.one(unit);
            for (int d = 0; d <= 8; d++) {
                int day = d;
                for (int l = 0; l <= day; l++) {
                    int level = l;
                    t.due("worth of " + unit, 1, () -> x.worth(unit, day, level));
                    t.value("one of " + unit, x, made, day, level, 1L << (8 - day));
                }
            }
        }
    }

    private static Check.Call maker(Numeraire x, int maker, int part, int other) {
        switch (maker) {
            case 0:
                return () -> x.turned('g', part);
            case 1:
                return () -> x.turned('l', part);
            case 2:
                return () -> x.both('b', part, other);
            case 3:
                return () -> x.both('b', other, part);
            case 4:
                return () -> x.both('e', part, other);
            case 5:
                return () -> x.both('e', other, part);
            case 6:
                return () -> x.scaled(part, 9);
            case 7:
                return () -> x.either(8, part, other);
            case 8:
                return () -> x.either(0, other, part);
            case 9:
                return () -> x.timed('w', part, 8);
            case 10:
                return () -> x.timed('u', part, 0);
            default:
                return () -> x.timed('a', part, 8);
        }
    }

    private static final int MAKERS = 12;

    private void numbersOfContracts() {
        t.says("At most 24 contracts are numbered from 0; their parts are earlier ones.");
        for (int maker = 0; maker < MAKERS; maker++) {
            Numeraire x = new Numeraire();
            for (int i = 0; i < 23; i++) {
                t.due("numbered " + i, i, () -> x.one(0));
            }
            t.due("the 24th by " + maker, 23, maker(x, maker, 22, 0));
            t.refused("a 25th by " + maker, Told.STATE, maker(x, maker, 22, 0));
            t.refused("a 25th by one", Told.STATE, () -> x.one(0));
            t.refused("a 25th, nothing", Told.STATE, () -> x.one(-1));
            t.due("the last one", 2, () -> x.depthOf(23));
            t.refused("none behind it", Told.INDEX, () -> x.kindOf(24));
        }
        Numeraire y = new Numeraire();
        Told.fill(y, 23);
        t.due("the 24th by one", 23, () -> y.one(2));
    }

    private void earlierParts() {
        for (int maker = 0; maker < MAKERS; maker++) {
            Numeraire empty = new Numeraire();
            t.refused("no part yet, by " + maker, Told.INDEX, maker(empty, maker, 0, 0));
            for (int count : new int[] {1, 6, 24}) {
                Numeraire x = new Numeraire();
                Told.fill(x, count);
                t.refused("itself, by " + maker, Told.INDEX, maker(x, maker, count, 0));
                for (int part : Told.outside(0, count - 1)) {
                    t.refused("the part " + part + " of " + count + ", by " + maker, Told.INDEX, maker(x, maker, part, 0));
                }
                if (count < 24) {
                    t.due("the last part, by " + maker, count, maker(x, maker, count - 1, 0));
                    t.due("itself behind it, by " + maker, count + 1, maker(x, maker, count, 0));
                }
            }
        }
    }

    private void depths() {
        t.says("The depth of a contract is 1 more than that of its deepest part, 1 without parts, and at most 6.");
        for (int maker = 0; maker < MAKERS; maker++) {
            Numeraire x = new Numeraire();
            int nothing = x.one(-1);
            int unit = x.one(2);
            t.due("of nothing", 1, () -> x.depthOf(nothing));
            t.due("of a unit", 1, () -> x.depthOf(unit));
            int part = unit;
            for (int depth = 2; depth <= 6; depth++) {
                t.due("made, by " + maker, part + 1, maker(x, maker, part, nothing));
                part++;
                int last = part;
                t.due("the depth, by " + maker, depth, () -> x.depthOf(last));
            }
            t.refused("a 7th, by " + maker, Told.UNSUPPORTED, maker(x, maker, part, nothing));
            t.refused("a 7th of two, by " + maker, Told.UNSUPPORTED, maker(x, maker, part, part));
            t.refused("none is made", Told.INDEX, () -> x.depthOf(7));
            t.due("of two of the depth 5", "7 6", () -> x.both('b', 5, 5) + " " + x.depthOf(7));
            t.due("of the depths 2 and 5", "8 6", () -> x.either(3, 2, 5) + " " + x.depthOf(8));
            t.due("of the depths 4 and 3", "9 5", () -> x.both('e', 4, 3) + " " + x.depthOf(9));
        }
    }

    private void parties() {
        t.says("A party acquires a contract on a day from another party.");
        for (int h = 0; h <= 3; h++) {
            int holder = h;
            for (int o = 0; o <= 3; o++) {
                int other = o;
                Numeraire x = new Numeraire();
                int unit = x.one(1);
                if (holder == other) {
                    t.refused(holder + " from itself", Told.ILLEGAL, () -> x.acquire(unit, holder, other));
                    t.due("nothing goes", 0, () -> x.amount(holder, 1) + x.moves());
                } else {
                    t.due(holder + " from " + other, 0, () -> x.acquire(unit, holder, other));
                    for (int p = 0; p <= 3; p++) {
                        int party = p;
                        t.due("what " + party + " has", party == holder ? 1 : party == other ? -1 : 0, () -> x.amount(party, 1));
                    }
                }
            }
        }
    }

    private void unitAndNothing() {
        t.says("'o', a unit: the other party gives it one of the unit.");
        Numeraire x = new Numeraire();
        x.setUnit(1, -7, 3);
        for (int u = 0; u <= 2; u++) {
            int unit = x.one(u);
            t.due("one of " + u, "0 " + (u + 1), () -> x.acquire(unit, 3, 0) + " " + x.moves());
        }
        t.due("one of each", "-1 -1 -1, 0 0 0, 0 0 0, 1 1 1", () -> Told.amounts(x));
        t.says("'z': nothing.");
        Numeraire y = new Numeraire();
        int nothing = y.one(-1);
        t.due("acquired", 0, () -> y.acquire(nothing, 1, 2));
        t.due("moves", 0, y::moves);
        t.due("amounts", "0 0 0, 0 0 0, 0 0 0, 0 0 0", () -> Told.amounts(y));
        t.value("z", y, nothing, 3, 2, 0);
    }

    private void turnedRound() {
        t.says("'g' of a part: the other party acquires the part from it.");
        Numeraire x = new Numeraire();
        int given = x.turned('g', x.one(2));
        int again = x.turned('g', given);
        int may = x.turned('g', x.timed('a', given, 8));
        x.acquire(given, 0, 1);
        t.due("g of o", "0 0 -1, 0 0 1, 0 0 0, 0 0 0", () -> Told.amounts(x));
        x.acquire(again, 2, 3);
        t.due("g of g", "0 0 -1, 0 0 1, 0 0 1, 0 0 -1", () -> Told.amounts(x));
        t.due("g of an item", 1, () -> x.acquire(may, 2, 3));
        t.due("the other holds it", "3 3 2 1", () -> Told.items(x));
        x.use(0);
        t.due("and gives when it is used", "0 0 -1, 0 0 1, 0 0 2, 0 0 -2", () -> Told.amounts(x));
    }

    private void both() {
        t.says("'b' of two parts: it acquires both, the first one first.");
        Numeraire x = new Numeraire();
        int unit = x.one(0);
        int may = x.timed('a', unit, 8);
        int later = x.timed('w', unit, 8);
        int one = x.both('b', may, later);
        int two = x.both('b', later, may);
        t.due("two", 2, () -> x.acquire(one, 0, 1));
        t.due("two others", 4, () -> x.acquire(two, 2, 3));
        t.due("in their order", "1 0 1 1, 2 0 1 1, 2 2 3 1, 1 2 3 1", () -> Told.items(x));
        x.close(0);
        x.close(2);
        x.acquire(x.both('b', one, x.both('b', unit, two)), 1, 2);
        t.due("one in the other", "1 1 2 1, 2 1 2 1, 2 1 2 1, 1 1 2 1", () -> Told.items(x));
        int twice = x.both('b', unit, unit);
        int moves = x.moves();
        x.acquire(twice, 3, 0);
        t.due("one part twice", moves + 2, x::moves);
    }

    private void either() {
        t.says("'e' of two parts: it acquires one of them, as it chooses that day.");
        Numeraire x = new Numeraire();
        int choice = x.both('e', x.one(1), x.one(2));
        int same = x.both('e', 0, 0);
        t.due("nothing at once", "1 0", () -> x.acquire(choice, 0, 1) + " " + x.moves());
        t.due("the first", "0 1", () -> x.choose(0, true) + " " + x.moves());
        t.due("that alone", "0 1 0, 0 -1 0, 0 0 0, 0 0 0", () -> Told.amounts(x));
        x.acquire(choice, 2, 1);
        t.due("the second", "0 2", () -> x.choose(0, false) + " " + x.moves());
        t.due("that alone, too", "0 1 0, 0 -1 -1, 0 0 1, 0 0 0", () -> Told.amounts(x));
        x.setUnit(2, -50, 0);
        x.acquire(choice, 3, 0);
        t.due("also the one that is worth less", "0 0 0 1", () -> x.choose(0, false) + " " + Told.amounts(x, 3));
        x.acquire(same, 3, 0);
        t.due("of two that are the same", "0 0 1 1", () -> x.choose(0, false) + " " + Told.amounts(x, 3));
    }

    private void scaled() {
        t.says("'s' of a part and a number from 0 to 9: it acquires the part, all amounts times this number.");
        for (int n = 0; n <= 9; n++) {
            int number = n;
            Numeraire x = new Numeraire();
            int two = x.both('b', x.one(1), x.turned('g', x.one(2)));
            int may = x.timed('a', x.one(0), 8);
            int all = x.scaled(x.both('b', two, may), number);
            t.due("by " + number, "1 2", () -> x.acquire(all, 0, 1) + " " + x.moves());
            t.due("all amounts", "0 " + number + " " + -number, () -> Told.amounts(x, 0));
            t.due("the other's", "0 " + -number + " " + number, () -> Told.amounts(x, 1));
            t.due("the item's factor", number, () -> x.factorOf(0));
            t.due("what comes by the item", "0 " + number, () -> x.use(0) + " " + x.amount(0, 0));
        }
        Numeraire y = new Numeraire();
        int unit = y.one(1);
        for (int number : Told.outside(0, 9)) {
            t.refused("by " + number, Told.ILLEGAL, () -> y.scaled(unit, number));
        }
        t.refused("none is made", Told.INDEX, () -> y.kindOf(1));
    }

    private void leveled() {
        t.says("'l' of a part: likewise, times the level.");
        for (int l = 0; l <= 8; l++) {
            int level = l;
            Numeraire x = new Numeraire();
            int two = x.both('b', x.one(1), x.turned('g', x.one(2)));
            int all = x.turned('l', x.both('b', two, x.timed('a', x.one(0), 8)));
            Told.goTo(x, 8, level);
            t.due("at " + level, "1 2", () -> x.acquire(all, 0, 1) + " " + x.moves());
            t.due("all amounts", "0 " + level + " " + -level, () -> Told.amounts(x, 0));
            t.due("the item's factor", level, () -> x.factorOf(0));
        }
        Numeraire y = new Numeraire();
        int twice = y.turned('l', y.turned('l', y.one(0)));
        Told.goTo(y, 5, 3);
        y.acquire(twice, 0, 1);
        t.due("l of l", 9, () -> y.amount(0, 0));
    }

    private void byLevel() {
        t.says("'i' of two parts and a number: it acquires the first one if the level is not less than the number, otherwise the second one.");
        for (int l = 0; l <= 8; l++) {
            int level = l;
            Numeraire x = new Numeraire();
            int first = x.one(1);
            int second = x.one(2);
            for (int number = 0; number <= 8; number++) {
                x.either(number, first, second);
            }
            Told.goTo(x, 8, level);
            for (int n = 0; n <= 8; n++) {
                int number = n;
                boolean isFirst = number <= level;
                long before = x.amount(0, isFirst ? 1 : 2);
                x.acquire(2 + number, 0, 1);
                t.due("at " + level + " by " + number, before + 1, () -> x.amount(0, isFirst ? 1 : 2));
                t.due("one part alone", number + 1, x::moves);
            }
        }
        Numeraire y = new Numeraire();
        int unit = y.one(0);
        for (int number : Told.outside(0, 8)) {
            t.refused("by " + number, Told.ILLEGAL, () -> y.either(number, unit, unit));
        }
        t.refused("none is made", Told.INDEX, () -> y.kindOf(1));
    }

    private void onDay() {
        t.says("'w' of a part and a day: it acquires the part on this day, or at once if this day is not ahead.");
        for (int d = 0; d <= 8; d++) {
            int now = d;
            for (int n = 0; n <= 8; n++) {
                int day = n;
                Numeraire x = new Numeraire();
                int later = x.timed('w', x.one(1), day);
                Told.goTo(x, now, 0);
                if (day <= now) {
                    t.due("to " + day + " on " + now + ", at once", "0 1 1", () -> x.acquire(later, 2, 0) + " " + x.moves() + " " + x.amount(2, 1));
                } else {
                    t.due("to " + day + " on " + now, "1 0", () -> x.acquire(later, 2, 0) + " " + x.moves());
                    Told.goTo(x, day - 1, 0);
                    t.due("a day before " + day, "1 0", () -> x.items() + " " + x.moves());
                    t.due("on " + day, "0 1 1", () -> x.next(true) + " " + x.moves() + " " + x.amount(2, 1));
                }
            }
        }
    }

    private void untilDay() {
        t.says("'u' of a part and a day: it acquires the part at once, unless this day is past.");
        for (int d = 0; d <= 8; d++) {
            int now = d;
            for (int n = 0; n <= 8; n++) {
                int day = n;
                Numeraire x = new Numeraire();
                int until = x.timed('u', x.one(1), day);
                Told.goTo(x, now, 0);
                int taken = day < now ? 0 : 1;
                t.due("to " + day + " on " + now, "0 " + taken + " " + taken, () -> x.acquire(until, 2, 0) + " " + x.moves() + " " + x.amount(2, 1));
            }
        }
    }

    private void mayAcquire() {
        t.says("'a' of a part and a day: it may acquire the part, once, on a day that it chooses, from this one on up to the day told.");
        for (int n = 0; n <= 8; n++) {
            int day = n;
            for (int u = 0; u <= 8; u++) {
                int used = u;
                Numeraire x = new Numeraire();
                int may = x.timed('a', x.one(1), day);
                x.acquire(may, 3, 2);
                t.due("nothing by itself", "1 0", () -> x.items() + " " + x.moves());
                Told.goTo(x, used, 0);
                if (used <= day) {
                    t.due("to " + day + " used on " + used, "0 1 1", () -> x.use(0) + " " + x.moves() + " " + x.amount(3, 1));
                    t.refused("once alone", Told.INDEX, () -> x.use(0));
                } else {
                    t.due("to " + day + ", not used by " + used, "0 0", () -> x.items() + " " + x.moves());
                    t.due("acquired when its day is past", "0 0", () -> x.acquire(may, 3, 2) + " " + x.moves());
                }
            }
        }
    }

    private void values() {
        t.says("The value of a contract on a day, at a level, is what it is worth in the unit 0 to who acquires it then, if who may choose does"
            + " what is worth most to itself, knowing the day and the level alone, and what comes later counts by its mean.");
        Numeraire x = new Numeraire();
        x.setUnit(1, 3, 2);
        int unit = x.one(1);
        int nothing = x.one(-1);
        int given = x.turned('g', unit);
        int leveled = x.turned('l', unit);
        int added = x.both('b', unit, leveled);
        int times = x.scaled(given, 9);
        int none = x.scaled(unit, 0);
        int high = x.either(2, unit, nothing);
        for (int day = 0; day <= 8; day += 2) {
            for (int level = 0; level <= day; level++) {
                long times2 = 1L << (8 - day);
                long worth = (3 + 2 * (2 * level - day)) * times2;
                t.value("o", x, unit, day, level, worth);
                t.value("z", x, nothing, day, level, 0);
                t.value("g", x, given, day, level, -worth);
                t.value("l", x, leveled, day, level, level * worth);
                t.value("b", x, added, day, level, worth + level * worth);
                t.value("s by 9", x, times, day, level, -9 * worth);
                t.value("s by 0", x, none, day, level, 0);
                t.value("i", x, high, day, level, level < 2 ? 0 : worth);
            }
        }
    }

    private void timedValues() {
        Numeraire x = new Numeraire();
        x.setUnit(2, -1, 3);
        int unit = x.one(2);
        int rises = x.turned('l', x.one(0));
        int later = x.timed('w', unit, 5);
        int laterRises = x.timed('w', rises, 5);
        int until = x.timed('u', unit, 5);
        for (int day = 0; day <= 8; day++) {
            for (int level = 0; level <= day; level += 3) {
                long worth = x.worth(2, day, level) << (8 - day);
                long meanLevel = day < 5 ? (2 * level + 5 - day) * (128L >> day) : level * (256L >> day);
                t.value("w of what stays the same by its mean", x, later, day, level, worth);
                t.value("w of the level", x, laterRises, day, level, meanLevel);
                t.value("u", x, until, day, level, day <= 5 ? worth : 0);
            }
        }
        Numeraire y = new Numeraire();
        y.setUnit(1, 0, 1);
        int may = y.timed('a', y.one(1), 8);
        t.value("a, by all that it can bring: 112 + 112 + 48 + 8 of 256", y, may, 0, 0, 280);
        t.value("a, a day before its last", y, may, 7, 4, 2);
        t.value("a, a day before, below", y, may, 7, 3, 0);
        t.value("a, a day before, as low", y, may, 7, 0, 0);
        int atOnce = y.timed('a', y.timed('u', y.one(0), 2), 5);
        t.value("a of what ends before", y, atOnce, 0, 0, 256);
        t.value("a of what ends today", y, atOnce, 2, 1, 64);
        t.value("a of what has ended", y, atOnce, 3, 1, 0);
        int now = y.timed('a', y.both('b', y.one(0), y.turned('g', y.turned('l', y.one(0)))), 8);
        t.value("a that is used at once", y, now, 0, 0, 256);
        t.value("a that is worth nothing at once, later less", y, now, 4, 1, 0);
    }

    private void chosenValues() {
        Numeraire x = new Numeraire();
        int one = x.one(0);
        int nothing = x.one(-1);
        int minus = x.turned('g', one);
        int minusTwo = x.scaled(minus, 2);
        int best = x.both('e', one, nothing);
        t.value("e, the first", x, best, 0, 0, 256);
        t.value("e, the second", x, x.both('e', minus, nothing), 0, 0, 0);
        t.value("e of two below 0", x, x.both('e', minusTwo, minus), 0, 0, -256);
        t.value("e of the same", x, x.both('e', minus, minus), 8, 8, -1);
        t.value("g of e: the other chooses", x, x.turned('g', best), 0, 0, -256);
        int choice = x.both('e', minus, minusTwo);
        t.value("g of e below 0", x, x.turned('g', choice), 0, 0, 256);
        t.value("a need not be used", x, x.timed('a', minus, 0), 0, 0, 0);
        t.value("g of a: the other may", x, x.turned('g', x.timed('a', one, 3)), 0, 0, -256);
        t.value("g of a that it does not use", x, x.turned('g', x.timed('a', minus, 3)), 0, 0, 0);
        t.value("s by 0 of a choice", x, x.scaled(choice, 0), 0, 0, 0);
        Numeraire y = new Numeraire();
        int up = y.either(1, y.one(0), y.one(-1));
        int down = y.either(1, 1, 0);
        int known = y.timed('w', y.both('e', up, down), 1);
        int notKnown = y.both('e', y.timed('w', up, 1), y.timed('w', down, 1));
        t.value("chosen when the level is known", y, known, 0, 0, 256);
        t.value("chosen a day before", y, notKnown, 0, 0, 128);
        t.value("chosen on the day", y, notKnown, 1, 0, 128);
    }

    private void wholeNumbers() {
        t.says("It is told times 2 to the power of 8 less the day, and is a whole number so.");
        Numeraire x = new Numeraire();
        int unit = x.one(0);
        int last = x.timed('w', x.either(8, unit, x.one(-1)), 8);
        int owed = x.turned('g', last);
        for (int d = 0; d <= 8; d++) {
            int day = d;
            t.value("one", x, unit, day, day, 1L << (8 - day));
            t.value("the least part", x, last, day, day, 1);
            t.value("the least part that is owed", x, owed, day, day, -1);
            double times = 1 << (8 - day);
            t.due("price on " + day, 1.0, () -> x.price(unit));
            t.due("price of the least part on " + day, 1 / times, () -> x.price(last));
            t.due("price of what is owed on " + day, -1 / times, () -> x.price(owed));
            t.due("wealth on " + day, 0, () -> x.wealth(0));
            if (day < 8) {
                x.next(true);
            }
        }
        t.due("a price of nothing is no -0", "0.0", () -> x.price(x.turned('g', 1)));
    }
}
