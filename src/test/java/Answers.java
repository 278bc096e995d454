/** What the promises say that each call does and returns. */
final class Answers {
    private final Terms t;

    /** Makes a contract of a part, or of that and another one. */
    private interface Maker {
        int make(Numeraire x, int part);
    }

    Answers(Terms t) {
        this.t = t;
    }

    void all() {
        newObject();
        units();
        contracts();
        kindsAndDepths();
        values();
        prices();
        acquiring();
        items();
        choosingAndUsing();
        handingOn();
        goingOn();
        closing();
        amounts();
        wealth();
        moves();
        days();
        share();
        sound();
    }

    private void newObject() {
        t.says("1 Creates a ledger without contracts and items, on the day 0.");
        Numeraire other = Story.some();
        other.setUnit(1, 7, 7);
        Numeraire x = new Numeraire();
        for (int n = 0; n <= 23; n++) {
            int contract = n;
            t.refused("contract " + n, Told.INDEX, () -> x.kindOf(contract));
        }
        for (int n = 0; n <= 39; n++) {
            int item = n;
            t.refused("item " + n, Told.INDEX, () -> x.contractOf(item));
        }
        t.due("items, day and moves", "0 0 0", () -> x.items() + " " + x.now() + " " + x.moves());
        t.due("nothing of another one", "1 1 1, 0 0 0, 0 0 0, 0 0 0, 0 0 0", () -> x.worth(0, 8, 8) + " " + x.worth(1, 8, 8) + " " + x.worth(2, 8, 8) + ", "
            + Told.amounts(x));
        t.due("the other one has its own", "6 3 32", () -> other.one(0) + " " + other.items() + " " + other.now());
    }

    private void units() {
        t.says("2 Sets base and slope of the unit 1 or 2.");
        for (int u = 1; u <= 2; u++) {
            int unit = u;
            Numeraire x = Story.some();
            x.setUnit(unit, 10, 3);
            t.due("base and slope", "10 34 -14", () -> x.worth(unit, 0, 0) + " " + x.worth(unit, 8, 8) + " " + x.worth(unit, 8, 0));
            t.due("the other one stays", "1 1", () -> x.worth(3 - unit, 8, 8) + " " + x.worth(0, 8, 8));
            x.setUnit(unit, -2, 0);
            t.due("set anew", "-2 -2 -2", () -> x.worth(unit, 0, 0) + " " + x.worth(unit, 8, 8) + " " + x.worth(unit, 8, 0));
        }
        Numeraire y = Story.some();
        t.due("values of before", 32, () -> y.value(0, 3, 2));
        y.setUnit(1, 10, 3);
        t.due("values then", 32 * 13, () -> y.value(0, 3, 2));
        t.says("2 Returns what one of it is worth now.");
        t.due("on the day 3 at the level 2", 13, () -> Story.some().setUnit(1, 10, 3));
        t.due("less than 0", -108, () -> Story.some().setUnit(2, -99, -9));
        t.due("on the day 0", 10, () -> new Numeraire().setUnit(2, 10, 3));
        t.says("3 Returns what one of a unit is worth.");
        y.setUnit(2, 5, -1);
        t.due("of each on the day 4", "1 16 3", () -> y.worth(0, 4, 3) + " " + y.worth(1, 4, 3) + " " + y.worth(2, 4, 3));
        t.due("not as it is now, but then", "1 4 7", () -> y.worth(0, 2, 0) + " " + y.worth(1, 2, 0) + " " + y.worth(2, 2, 0));
        t.says("3 Returns the number.");
        t.due("not multiplied", "10 10", () -> y.worth(1, 0, 0) + " " + y.worth(1, 8, 4));
    }

    private void contracts() {
        made(4, "Makes a contract 'o', or 'z'.", "oooz", (x, part) -> x.one(0), (x, part) -> x.one(1), (x, part) -> x.one(2), (x, part) -> x.one(-1));
        made(5, "Makes a contract 'g' or 'l'.", "gl", (x, part) -> x.turned('g', part), (x, part) -> x.turned('l', part));
        made(6, "Makes a contract 'b' or 'e'.", "be", (x, part) -> x.both('b', part, part), (x, part) -> x.both('e', 0, part));
        made(7, "Makes a contract 's'.", "ss", (x, part) -> x.scaled(part, 0), (x, part) -> x.scaled(part, 9));
        made(8, "Makes a contract 'i'.", "ii", (x, part) -> x.either(0, part, 0), (x, part) -> x.either(8, 0, part));
        made(9, "Makes a contract 'w', 'u' or 'a'.", "wua", (x, part) -> x.timed('w', part, 8), (x, part) -> x.timed('u', part, 0),
            (x, part) -> x.timed('a', part, 4));
    }

    /** Each maker makes one contract of its kind, with the next number, also as the 2nd one and as the 24th. */
    private void made(int promise, String words, String kinds, Maker... makers) {
        for (int i = 0; i < makers.length; i++) {
            Maker maker = makers[i];
            char kind = kinds.charAt(i);
            for (int count : new int[] {1, 2, 6, 23}) {
                Numeraire x = new Numeraire();
                Told.fill(x, count);
                t.says(promise + " Returns the number of the contract.");
                t.due(kind + " behind " + count, count, () -> maker.make(x, count - 1));
                t.says(promise + " " + words);
                t.due("the kind behind " + count, kind, () -> x.kindOf(count));
                t.refused("one alone behind " + count, Told.INDEX, () -> x.kindOf(count + 1));
                t.due("those before stay", "z1", () -> x.kindOf(count - 1) + "" + x.depthOf(count - 1));
            }
        }
    }

    private void kindsAndDepths() {
        Numeraire x = new Numeraire();
        x.one(2);
        x.one(-1);
        x.turned('g', 0);
        x.both('b', 1, 2);
        x.both('e', 3, 0);
        x.scaled(4, 0);
        x.turned('l', 5);
        x.either(8, 1, 0);
        x.timed('w', 7, 0);
        x.timed('u', 8, 8);
        x.timed('a', 1, 8);
        String kinds = "ozgbesliwua";
        int[] depths = {1, 1, 2, 3, 4, 5, 6, 2, 3, 4, 2};
        for (int i = 0; i < depths.length; i++) {
            int contract = i;
            t.says("10 Returns the kind of a contract.");
            t.due("of " + contract, kinds.charAt(i), () -> x.kindOf(contract));
            t.says("11 Returns the depth of a contract.");
            t.due("of " + contract, depths[i], () -> x.depthOf(contract));
        }
        Told.goTo(x, 8, 4);
        t.says("10 Returns the kind.");
        t.due("also when its day is past", 'w', () -> x.kindOf(8));
        t.says("11 Returns the depth.");
        t.due("also when its day is past", 3, () -> x.depthOf(8));
    }

    private void values() {
        Numeraire x = new Numeraire();
        x.setUnit(2, 3, 2);
        int unit = x.one(2);
        int last = x.timed('w', x.either(7, unit, x.one(-1)), 8);
        for (int d = 0; d <= 8; d++) {
            int day = d;
            long times = 1L << (8 - day);
            t.says("12 Returns the value of a contract.");
            t.due("a unit on " + day, (3 + 2 * day) * times, () -> x.value(unit, day, day));
            t.due("one of two", day == 8 ? 19 : (8 - day) * 15 + 19, () -> x.value(last, day, day));
            t.says("12 Returns the value, times 2 to the power of 8 less the day.");
            t.due("a unit on " + day + " at 0", (3 - 2 * day) * times, () -> x.value(unit, day, 0));
            t.says("13 Returns the same, found by going along all ways that days and levels can take.");
            t.due("one of two", x.value(last, day, day), () -> x.valueAnew(last, day, day));
            t.says("13 Returns the value, likewise.");
            t.due("a unit on " + day, (3 - 2 * day) * times, () -> x.valueAnew(unit, day, 0));
        }
        Numeraire y = new Numeraire();
        y.one(1);
        for (int part = 0; part < 5; part++) {
            y.scaled(part, 9);
        }
        y.setUnit(1, 99, 9);
        t.says("12 Returns the value of a contract.");
        t.due("the most", 59049L * 99 * 256, () -> y.value(5, 0, 0));
        t.says("13 Returns the same, found by going along all ways that days and levels can take.");
        t.due("the most", 59049L * 99 * 256, () -> y.valueAnew(5, 0, 0));
        t.due("of the last day", 59049L * 171, () -> y.valueAnew(5, 8, 8));
    }

    private void prices() {
        Numeraire x = new Numeraire();
        int unit = x.one(0);
        int later = x.timed('w', x.either(8, unit, x.one(-1)), 8);
        int owed = x.turned('g', x.scaled(later, 9));
        double part = 1;
        for (int day = 0; day < 8; day++) {
            part = part / 2;
        }
        for (int day = 0; day <= 8; day++) {
            double want = part;
            t.says("14 Returns the value of a contract now.");
            t.due("on " + day, want, () -> x.price(later));
            t.says("14 Returns the value, as a double that is not multiplied.");
            t.due("on " + day, "1.0 " + -9 * want, () -> x.price(unit) + " " + x.price(owed));
            part = part * 2;
            if (day < 8) {
                x.next(true);
            }
        }
        t.due("on the day 3 at the level 2", "1.0 2.0", () -> {
            Numeraire y = Story.some();
            return y.price(0) + " " + y.price(5);
        });
    }

    private void acquiring() {
        t.says("15 Lets a party acquire a contract from another one, now.");
        Numeraire x = new Numeraire();
        int leveled = x.turned('l', x.one(1));
        int may = x.timed('a', leveled, 8);
        int both = x.both('b', may, x.both('b', leveled, may));
        Told.goTo(x, 4, 3);
        x.acquire(leveled, 2, 0);
        t.due("at the level now", "0 -3 0, 0 0 0, 0 3 0, 0 0 0", () -> Told.amounts(x));
        x.acquire(may, 1, 3);
        t.due("from the other one", may + " 1 3 1", () -> Told.items(x));
        t.says("15 Returns the number of items then.");
        t.due("one more", 2, () -> x.acquire(may, 0, 1));
        t.due("two more", 4, () -> x.acquire(both, 0, 1));
        t.due("none more", 4, () -> x.acquire(leveled, 0, 1));
        t.due("24th contract", 5, () -> {
            Told.fill(x, 23);
            return x.acquire(x.timed('a', 0, 8), 0, 1);
        });
    }

    private void items() {
        t.says("16 Returns the number of items.");
        Numeraire x = Story.forty();
        t.due("40", 40, x::items);
        for (int left = 39; left >= 0; left--) {
            x.use(0);
            t.due("one less", left, x::items);
        }
        Numeraire y = new Numeraire();
        int unit = y.one(0);
        int may = y.timed('a', unit, 8);
        int later = y.timed('w', may, 8);
        y.acquire(later, 3, 1);
        y.acquire(y.turned('g', y.scaled(may, 5)), 0, 2);
        t.says("17 Returns the contract of an item.");
        t.due("of each", later + " " + may, () -> y.contractOf(0) + " " + y.contractOf(1));
        t.says("17 Returns the number of the contract.");
        t.due("its kind", "wa", () -> y.kindOf(y.contractOf(0)) + "" + y.kindOf(y.contractOf(1)));
        t.says("18 Returns the holder of an item.");
        t.due("of each", "3 2", () -> y.holderOf(0) + " " + y.holderOf(1));
        t.says("19 Returns the other party of an item.");
        t.due("of each", "1 0", () -> y.otherOf(0) + " " + y.otherOf(1));
        y.assign(0, 2);
        t.says("18 Returns the party.");
        t.due("that holds it now", "2 2", () -> y.holderOf(0) + " " + y.holderOf(1));
        t.says("19 Returns the party.");
        t.due("still", "1 0", () -> y.otherOf(0) + " " + y.otherOf(1));
        t.says("20 Returns the factor of an item.");
        t.due("of each", "1 5", () -> y.factorOf(0) + " " + y.factorOf(1));
        t.says("20 Returns the factor.");
        Numeraire z = new Numeraire();
        int part = z.timed('a', z.one(0), 8);
        for (int i = 0; i < 4; i++) {
            part = z.scaled(part, 9);
        }
        z.acquire(part, 0, 1);
        t.due("the most", 6561, () -> z.factorOf(0));
    }

    private void choosingAndUsing() {
        Numeraire x = new Numeraire();
        int unit = x.one(1);
        int may = x.timed('a', x.both('b', unit, unit), 8);
        int choice = x.both('e', x.both('b', may, may), x.one(2));
        x.acquire(x.scaled(choice, 3), 0, 1);
        x.acquire(choice, 2, 3);
        x.acquire(may, 3, 0);
        t.says("21 Returns the number of items then.");
        t.due("one less", 2, () -> x.choose(1, false));
        t.due("two for one", 3, () -> x.choose(0, true));
        t.says("21 Chooses a part of an item of the kind 'e': its holder acquires it.");
        t.due("from its other party", "0 0 0, 0 0 0, 0 0 1, 0 0 -1", () -> Told.amounts(x));
        t.due("by its factor", may + " 3 0 1, " + may + " 0 1 3, " + may + " 0 1 3", () -> Told.items(x));
        t.says("22 Returns the number of items then.");
        t.due("one less", 2, () -> x.use(1));
        t.says("22 Uses an item of the kind 'a': its holder acquires the part.");
        t.due("from its other party, by its factor", "0 6 0, 0 -6 0, 0 0 1, 0 0 -1", () -> Told.amounts(x));
        t.due("the others stay", may + " 3 0 1, " + may + " 0 1 3", () -> Told.items(x));
        t.due("the moves", 3, x::moves);
    }

    private void handingOn() {
        Numeraire x = Story.some();
        t.says("23 Returns the holder before.");
        t.due("the first time", 1, () -> x.assign(1, 3));
        t.due("the second time", 3, () -> x.assign(1, 0));
        t.due("to itself", 0, () -> x.assign(1, 0));
        t.says("23 Gives an item to another holder.");
        t.due("that one alone", "2 0 1 1, 1 0 2 1, 3 2 3 1", () -> Told.items(x));
        t.due("nothing is given", "0 0 0, 0 0 0, 0 0 0, 0 0 0", () -> Told.amounts(x));
        t.due("no move", 0, x::moves);
    }

    private void goingOn() {
        Numeraire x = new Numeraire();
        int may = x.timed('a', x.one(0), 1);
        x.acquire(x.timed('w', x.both('b', may, may), 1), 0, 1);
        t.says("24 Returns the number of items then.");
        t.due("two for one", 2, () -> x.next(true));
        t.says("24 Goes on to the next day.");
        t.due("the day 1", 11, x::now);
        t.due("none, and the day 2", "0 21", () -> x.next(false) + " " + x.now());
    }

    private void closing() {
        t.says("25 Returns how many items were taken out.");
        int[] closed = {1, 2, 2, 1};
        for (int p = 0; p <= 3; p++) {
            int party = p;
            t.due("of " + party, closed[party] + " " + (3 - closed[party]), () -> {
                Numeraire x = Story.some();
                return x.close(party) + " " + x.items();
            });
        }
        t.due("all 40", "40 0", () -> {
            Numeraire x = Story.forty();
            return x.close(1) + " " + x.items();
        });
        t.says("25 Closes a party.");
        Numeraire x = Story.some();
        x.close(1);
        t.due("what is due to it and from it", "1 0 0, 0 0 0, -1 0 0, 0 0 0", () -> Told.amounts(x));
        t.due("the others stay", "3 2 3 1", () -> Told.items(x));
        t.due("again there is nothing", "0 2", () -> x.close(1) + " " + x.moves());
    }

    private void amounts() {
        Numeraire x = new Numeraire();
        int[] units = {x.one(0), x.scaled(x.one(1), 2), x.scaled(x.one(2), 3)};
        for (int unit = 0; unit <= 2; unit++) {
            x.acquire(units[unit], unit, 3);
        }
        t.says("26 Returns the amount of a unit that a party has.");
        t.due("each", "1 0 0, 0 2 0, 0 0 3, -1 -2 -3", () -> Told.amounts(x));
        x.setUnit(1, 50, 0);
        x.next(true);
        t.says("26 Returns the amount.");
        t.due("not what it is worth", "1 0 0, 0 2 0, 0 0 3, -1 -2 -3", () -> Told.amounts(x));
    }

    private void wealth() {
        t.says("27 Returns what a party is worth: its amounts, at what the units are worth now, and its items, at their values now times their factors,"
            + " less than 0 as the other party.");
        Numeraire x = new Numeraire();
        x.setUnit(1, -2, 3);
        x.setUnit(2, 7, -9);
        int[] units = {x.one(0), x.one(1), x.one(2)};
        int minus = x.timed('w', x.turned('g', x.one(0)), 8);
        for (int unit : units) {
            x.acquire(unit, 0, 1);
        }
        t.due("of amounts, on the day 0", 256 * (1 - 2 + 7) + " " + -256 * (1 - 2 + 7) + " 0 0", () -> Told.wealths(x));
        x.acquire(x.scaled(minus, 3), 2, 3);
        t.due("of an item that is worth less than 0", 256 * 6 + " " + -256 * 6 + " " + -3 * 256 + " " + 3 * 256, () -> Told.wealths(x));
        x.acquire(x.scaled(minus, 0), 0, 3);
        t.due("of the factor 0", 256 * 6 + " " + -256 * 6 + " " + -3 * 256 + " " + 3 * 256, () -> Told.wealths(x));
        x.assign(0, 1);
        t.due("of who holds it now", 256 * 6 + " " + -256 * 9 + " 0 " + 3 * 256, () -> Told.wealths(x));
        t.says("27 Returns the number, times 2 to the power of 8 less the day.");
        Told.goTo(x, 7, 0);
        t.due("on the day 7", 2 * (1 - 23 + 70) + " " + -2 * (48 + 3) + " 0 6", () -> Told.wealths(x));
        x.next(false);
        t.due("on the day 8, times 1", (1 - 26 + 79) + " " + -(54 + 3) + " 0 3", () -> Told.wealths(x));
        t.due("no item more", "0 -4 3", () -> x.items() + " " + x.amount(1, 0) + " " + x.amount(3, 0));
    }

    private void moves() {
        t.says("28 Returns the number of moves.");
        Numeraire x = new Numeraire();
        int part = x.one(1);
        for (int i = 0; i < 5; i++) {
            part = x.both('b', part, part);
        }
        for (int i = 0; i <= 150; i++) {
            int times = i;
            t.due("of 32 each", 32 * times, x::moves);
            x.acquire(5, 1, 3);
        }
        t.due("as many as were given", 151 * 32, () -> x.amount(1, 1));
    }

    private void days() {
        t.says("29 Returns the day and the level.");
        for (int day = 0; day <= 8; day++) {
            for (int level = 0; level <= day; level++) {
                Numeraire x = new Numeraire();
                Told.goTo(x, day, level);
                t.due("10 times the day plus the level", 10 * day + level, x::now);
            }
        }
        t.says("29 Returns 10 times the day plus the level.");
        t.due("of the day 3 and the level 2", 32, () -> Story.some().now());
    }

    private void share() {
        t.says("30 Returns the share of the items that are of the kind 'a'.");
        t.due("one of three", 1.0f / 3.0f, () -> Story.some().openShare());
        t.due("all of 40", 1.0f, () -> Story.forty().openShare());
        t.says("30 Returns their number divided by that of all, both converted to float.");
        for (int all = 1; all <= 40; all += 3) {
            for (int open = 0; open <= all; open += 5) {
                Numeraire x = new Numeraire();
                int later = x.timed('w', x.one(0), 8);
                int may = x.timed('a', 0, 8);
                Told.crowd(x, may, open);
                Told.crowd(x, later, all);
                float want = (float) open / (float) all;
                t.due(open + " of " + all, want, x::openShare);
            }
        }
    }

    /** That it answers false is for SoundTest, as no call brings that about. */
    private void sound() {
        Numeraire x = new Numeraire();
        Story.crowded(x);
        t.says("31 Returns whether all is sound: each contract has the same value by both ways, now; the amounts of each unit add up to 0 over all parties,"
            + " and so does what the parties are worth.");
        t.due("with 24 contracts and 40 items", true, x::isSound);
        x.close(0);
        t.due("closed", true, x::isSound);
        t.says("31 Returns whether this holds.");
        t.due("of a new one", true, () -> new Numeraire().isSound());
        for (int day = 2; day <= 8; day++) {
            x.close(day % 4);
            x.next(day % 2 == 0);
            t.due("on " + day, true, x::isSound);
        }
    }
}
