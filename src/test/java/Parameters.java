/** What the promises say of each parameter: its last allowed values, and the first refused ones, on both sides. */
final class Parameters {
    private final Terms t;

    /** A call with one number. */
    private interface OfNumber {
        Object answer(Numeraire x, int number);
    }

    /** A call with a character. */
    private interface OfKind {
        Object answer(Numeraire x, char kind);
    }

    /** Makes a contract. */
    private interface Maker {
        int make(Numeraire x);
    }

    Parameters(Terms t) {
        this.t = t;
    }

    void all() {
        units();
        worths();
        kindsOfParts();
        numbers();
        timed();
        contracts();
        daysAndLevels();
        acquiring();
        items();
        choosing();
        handingOn();
        goingOn();
        parties();
    }

    /** Each number from least to most is taken, each on a ledger of its own; those outside are refused and change nothing. */
    private void range(String what, int least, int most, String exception, OfNumber call) {
        for (int number = least; number <= most; number++) {
            Numeraire x = Story.some();
            int each = number;
            t.due(what + " of " + number + " is allowed", true, () -> call.answer(x, each) != null);
        }
        String before = Story.lookAtSome(Story.some());
        for (int number : Told.outside(least, most)) {
            Numeraire x = Story.some();
            t.refused(what + " of " + number, exception, () -> call.answer(x, number));
            t.due("behind " + what + " of " + number, before, () -> Story.lookAtSome(x));
        }
    }

    /** Of all characters, those told alone are taken. */
    private void kinds(String what, String allowed, OfKind call) {
        for (int from = 0; from <= Character.MAX_VALUE; from += 128) {
            Numeraire x = Story.some();
            for (int i = from; i < from + 128; i++) {
                char kind = (char) i;
                if (allowed.indexOf(kind) < 0) {
                    t.refused(what + " of the character " + i, Told.ILLEGAL, () -> call.answer(x, kind));
                } else {
                    t.due(what + " of " + kind, "6" + kind, () -> call.answer(Story.some(), kind));
                }
            }
            t.refused("no contract by " + what, Told.INDEX, () -> x.kindOf(6));
        }
    }

    private void units() {
        t.says("2 `unit`: the unit, 1 or 2");
        range("setUnit", 1, 2, Told.ILLEGAL, (x, n) -> x.setUnit(n, 3, 4));
        t.says("2 `base`: the base, -99 to 99");
        range("setUnit", -99, 99, Told.ILLEGAL, (x, n) -> x.setUnit(1, n, 0));
        t.says("2 `slope`: the slope, -9 to 9");
        range("setUnit", -9, 9, Told.ILLEGAL, (x, n) -> x.setUnit(2, 0, n));
        t.says("4 `unit`: the unit, 0 to 2, or -1 for z");
        range("one", -1, 2, Told.ILLEGAL, Numeraire::one);
        for (int u = -1; u <= 2; u++) {
            int unit = u;
            t.due("the kind of " + unit, unit == -1 ? 'z' : 'o', () -> {
                Numeraire x = Story.some();
                return x.kindOf(x.one(unit));
            });
        }
    }

    private void worths() {
        t.says("3 `unit`: the unit, 0 to 2");
        range("worth", 0, 2, Told.ILLEGAL, (x, n) -> x.worth(n, 8, 8));
        t.says("3 `day`: the day, 0 to 8");
        range("worth", 0, 8, Told.ILLEGAL, (x, n) -> x.worth(1, n, 0));
        t.says("3 `level`: the level, 0 to the day");
        for (int d = 0; d <= 8; d++) {
            int day = d;
            range("worth on " + day, 0, day, Told.ILLEGAL, (x, n) -> x.worth(1, day, n));
        }
    }

    private void kindsOfParts() {
        t.says("5 `kind`: 'g' or 'l'");
        kinds("turned", "gl", (x, kind) -> x.turned(kind, 0) + "" + x.kindOf(6));
        t.says("5 `contract`: the number of the contract");
        for (char kind : "gl".toCharArray()) {
            range("turned by " + kind, 0, 5, Told.INDEX, (x, n) -> x.turned(kind, n));
        }
        t.says("6 `kind`: 'b' or 'e'");
        kinds("both", "be", (x, kind) -> x.both(kind, 0, 1) + "" + x.kindOf(6));
        t.says("6 `first`: the first part");
        t.due("of two parts", 256, () -> valueOf(x -> x.both('b', x.one(0), x.one(-1))));
        for (char kind : "be".toCharArray()) {
            range("both by " + kind, 0, 5, Told.INDEX, (x, n) -> x.both(kind, n, 0));
        }
        t.says("6 `second`: the second part");
        t.due("of two parts", 256, () -> valueOf(x -> x.both('b', x.one(-1), x.one(0))));
        for (char kind : "be".toCharArray()) {
            range("both by " + kind, 0, 5, Told.INDEX, (x, n) -> x.both(kind, 0, n));
        }
    }

    private static long valueOf(Maker maker) {
        Numeraire x = new Numeraire();
        return x.value(maker.make(x), 0, 0);
    }

    private void numbers() {
        t.says("7 `contract`: the number of the contract");
        range("scaled", 0, 5, Told.INDEX, (x, n) -> x.scaled(n, 9));
        t.says("7 `number`: the number, 0 to 9");
        range("scaled", 0, 9, Told.ILLEGAL, (x, n) -> x.scaled(0, n));
        for (int n = 0; n <= 9; n++) {
            int number = n;
            t.due("the value by " + number, 256L * number, () -> valueOf(x -> x.scaled(x.one(0), number)));
        }
        t.says("8 `level`: the number, 0 to 8");
        range("either", 0, 8, Told.ILLEGAL, (x, n) -> x.either(n, 0, 1));
        t.says("8 `first`: the first part");
        range("either", 0, 5, Told.INDEX, (x, n) -> x.either(0, n, 0));
        t.due("if the level is not less", 256, () -> valueOf(x -> x.either(0, x.one(0), x.one(-1))));
        t.says("8 `second`: the second part");
        range("either", 0, 5, Told.INDEX, (x, n) -> x.either(0, 0, n));
        t.due("if the level is less", 256, () -> valueOf(x -> x.either(1, x.one(-1), x.one(0))));
    }

    private void timed() {
        t.says("9 `kind`: 'w', 'u' or 'a'");
        kinds("timed", "wua", (x, kind) -> x.timed(kind, 0, 0) + "" + x.kindOf(6));
        for (char kind : "wua".toCharArray()) {
            t.says("9 `contract`: the number of the contract");
            range("timed by " + kind, 0, 5, Told.INDEX, (x, n) -> x.timed(kind, n, 8));
            t.says("9 `day`: the day, 0 to 8");
            range("timed by " + kind, 0, 8, Told.ILLEGAL, (x, n) -> x.timed(kind, 0, n));
        }
        for (int n = 0; n <= 8; n++) {
            int last = n;
            t.due("u to " + last, last < 3 ? 0 : 2, () -> {
                Numeraire x = Story.some();
                x.acquire(x.timed('u', x.scaled(x.one(2), 2), last), 0, 1);
                return x.amount(0, 2);
            });
        }
    }

    private void contracts() {
        t.says("10 `contract`: the number of the contract");
        range("kindOf", 0, 5, Told.INDEX, Numeraire::kindOf);
        t.says("11 `contract`: the number of the contract");
        range("depthOf", 0, 5, Told.INDEX, Numeraire::depthOf);
        t.says("12 `contract`: the number of the contract");
        range("value", 0, 5, Told.INDEX, (x, n) -> x.value(n, 8, 8));
        t.says("13 `contract`: the number of the contract");
        range("valueAnew", 0, 5, Told.INDEX, (x, n) -> x.valueAnew(n, 8, 8));
        t.says("14 `contract`: the number of the contract");
        range("price", 0, 5, Told.INDEX, Numeraire::price);
    }

    private void daysAndLevels() {
        t.says("12 `day`: the day, 0 to 8");
        range("value", 0, 8, Told.ILLEGAL, (x, n) -> x.value(5, n, 0));
        t.says("13 `day`: the day, 0 to 8");
        range("valueAnew", 0, 8, Told.ILLEGAL, (x, n) -> x.valueAnew(5, n, 0));
        for (int d = 0; d <= 8; d++) {
            int day = d;
            t.says("12 `level`: the level, 0 to the day");
            range("value on " + day, 0, day, Told.ILLEGAL, (x, n) -> x.value(5, day, n));
            t.says("13 `level`: the level, 0 to the day");
            range("valueAnew on " + day, 0, day, Told.ILLEGAL, (x, n) -> x.valueAnew(5, day, n));
        }
    }

    private void acquiring() {
        t.says("15 `contract`: the number of the contract");
        range("acquire", 0, 5, Told.INDEX, (x, n) -> x.acquire(n, 0, 1));
        t.says("15 `holder`: the party that acquires it, 0 to 3");
        range("acquire from 3", 0, 2, Told.ILLEGAL, (x, n) -> x.acquire(1, n, 3));
        range("acquire from 0", 1, 3, Told.ILLEGAL, (x, n) -> x.acquire(1, n, 0));
        t.due("it holds the item", 2, () -> {
            Numeraire x = Story.some();
            return x.holderOf(x.acquire(1, 2, 1) - 1);
        });
        t.says("15 `other`: the other party, 0 to 3");
        range("acquire as 0", 1, 3, Told.ILLEGAL, (x, n) -> x.acquire(1, 0, n));
        range("acquire as 3", 0, 2, Told.ILLEGAL, (x, n) -> x.acquire(1, 3, n));
        t.due("it is the item's other party", 1, () -> {
            Numeraire x = Story.some();
            return x.otherOf(x.acquire(1, 2, 1) - 1);
        });
    }

    private void items() {
        t.says("17 `item`: the number of the item, from 0");
        item(Numeraire::contractOf);
        t.says("18 `item`: the number of the item, from 0");
        item(Numeraire::holderOf);
        t.says("19 `item`: the number of the item, from 0");
        item(Numeraire::otherOf);
        t.says("20 `item`: the number of the item, from 0");
        item(Numeraire::factorOf);
    }

    private void item(OfNumber call) {
        range("one of three", 0, 2, Told.INDEX, call);
        Numeraire x = Story.forty();
        t.due("the 40th", true, () -> call.answer(x, 39) != null);
        t.refused("a 41st", Told.INDEX, () -> call.answer(x, 40));
        x.use(39);
        t.refused("the 40th, done", Told.INDEX, () -> call.answer(x, 39));
        t.due("the 39th", true, () -> call.answer(x, 38) != null);
    }

    /** Of the three items, the one is an e, the next one an a, the last one a w. */
    private void choosing() {
        t.says("21 `item`: the number of the item, from 0");
        String other = "throws." + Told.UNSUPPORTED;
        ofThree((x, n) -> x.choose(n, true), "3", other, other);
        ofThree((x, n) -> x.choose(n, false), "2", other, other);
        t.says("21 `isFirst`: whether the first part");
        Numeraire x = new Numeraire();
        int choice = x.both('e', x.one(1), x.one(2));
        Told.crowd(x, choice, 40);
        t.due("the first of the 40th", "39 0 1 0", () -> x.choose(39, true) + " " + Told.amounts(x, 0));
        t.due("the second of the 39th", "38 0 1 1", () -> x.choose(38, false) + " " + Told.amounts(x, 0));
        t.says("22 `item`: the number of the item, from 0");
        ofThree(Numeraire::use, other, "2", other);
        t.due("the 40th", 39, () -> Story.forty().use(39));
    }

    private void ofThree(OfNumber call, String... wanted) {
        for (int item = 0; item < wanted.length; item++) {
            int each = item;
            t.due("the item " + item, wanted[item], () -> call.answer(Story.some(), each));
        }
        String before = Story.lookAtSome(Story.some());
        for (int item : Told.outside(0, wanted.length - 1)) {
            Numeraire x = Story.some();
            t.refused("the item " + item, Told.INDEX, () -> call.answer(x, item));
            t.due("behind the item " + item, before, () -> Story.lookAtSome(x));
        }
    }

    private void handingOn() {
        t.says("23 `item`: the number of the item, from 0");
        range("assign", 0, 2, Told.INDEX, (x, n) -> x.assign(n, n));
        t.due("the 40th", 0, () -> Story.forty().assign(39, 3));
        t.says("23 `party`: the new holder");
        range("assign, not to 3", 0, 2, Told.ILLEGAL, (x, n) -> x.assign(2, n));
        for (int holder = 0; holder <= 3; holder++) {
            for (int other = 0; other <= 3; other++) {
                if (holder != other) {
                    handedOn(holder, other);
                }
            }
        }
    }

    private void handedOn(int holder, int other) {
        for (int p = 0; p <= 3; p++) {
            int party = p;
            Numeraire x = new Numeraire();
            x.acquire(x.timed('a', x.one(0), 8), holder, other);
            String want = party == other ? "throws." + Told.ILLEGAL : "" + holder;
            t.due("from " + holder + " to " + party + ", against " + other, want, () -> x.assign(0, party));
            t.due("the holder then", party == other ? holder : party, () -> x.holderOf(0));
            t.due("the other party then", other, () -> x.otherOf(0));
        }
    }

    private void goingOn() {
        t.says("24 `isUp`: whether the level becomes 1 higher");
        for (boolean isUp : new boolean[] {false, true}) {
            Numeraire x = new Numeraire();
            for (int d = 1; d <= 8; d++) {
                int day = d;
                t.due("to " + day, isUp ? 11 * day : 10 * day, () -> x.next(isUp) + x.now());
            }
        }
    }

    private void parties() {
        t.says("25 `party`: the party, 0 to 3");
        range("close", 0, 3, Told.INDEX, Numeraire::close);
        t.says("26 `party`: the party, 0 to 3");
        range("amount", 0, 3, Told.INDEX, (x, n) -> x.amount(n, 2));
        t.says("26 `unit`: the unit, 0 to 2");
        range("amount", 0, 2, Told.ILLEGAL, (x, n) -> x.amount(3, n));
        t.says("27 `party`: the party, 0 to 3");
        range("wealth", 0, 3, Told.INDEX, Numeraire::wealth);
    }
}
