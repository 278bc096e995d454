/** What the promises say that each call throws: there, and not just before it. */
final class Refusals {
    private final Terms t;

    /** A call with the number of a contract or an item. */
    private interface OfNumber {
        Object answer(Numeraire x, int number);
    }

    /** A call. */
    private interface Ask {
        Object answer(Numeraire x);
    }

    Refusals(Terms t) {
        this.t = t;
    }

    void all() {
        numbers();
        makers(5, "", (x, part) -> x.turned('g', part), (x, part) -> x.turned('l', part));
        makers(6, ", for either", (x, part) -> x.both('b', part, 0), (x, part) -> x.both('b', 0, part), (x, part) -> x.both('e', part, part));
        makers(7, "", (x, part) -> x.scaled(part, 9));
        makers(8, ", for either", (x, part) -> x.either(8, part, 0), (x, part) -> x.either(0, 0, part), (x, part) -> x.either(4, part, part));
        makers(9, "", (x, part) -> x.timed('w', part, 8), (x, part) -> x.timed('u', part, 0), (x, part) -> x.timed('a', part, 4));
        kinds();
        noContract();
        daysAndLevels();
        acquiring();
        noItem();
        otherKinds();
        tooManyItems();
        parties();
        lastDay();
        noShare();
    }

    private void numbers() {
        t.says("2 Throws `IllegalArgumentException` if there is no such unit, or a number is out of range");
        refused(Told.ILLEGAL, x -> x.setUnit(0, 1, 1), x -> x.setUnit(3, 1, 1), x -> x.setUnit(1, 100, 1), x -> x.setUnit(2, -100, 1),
            x -> x.setUnit(1, 1, 10), x -> x.setUnit(2, 1, -10), x -> x.setUnit(0, 100, 10));
        taken(x -> x.setUnit(1, 99, 9), x -> x.setUnit(2, -99, -9));
        t.says("3 Throws `IllegalArgumentException` if there is no such unit, day or level");
        refused(Told.ILLEGAL, x -> x.worth(3, 0, 0), x -> x.worth(-1, 0, 0), x -> x.worth(0, 9, 0), x -> x.worth(0, -1, 0), x -> x.worth(0, -1, -1),
            x -> x.worth(0, 3, 4), x -> x.worth(0, 8, 9), x -> x.worth(0, 9, 9), x -> x.worth(0, 3, -1));
        taken(x -> x.worth(2, 8, 8), x -> x.worth(0, 0, 0));
        t.says("4 Throws `IllegalArgumentException` if there is no such unit, and it is not -1");
        refused(Told.ILLEGAL, x -> x.one(3), x -> x.one(-2));
        taken(x -> x.one(2), x -> x.one(-1));
        t.says("4 Throws `IllegalStateException` if there are 24 contracts");
        for (int u = -1; u <= 2; u++) {
            int unit = u;
            full((x, part) -> x.one(unit));
        }
        t.says("7 Throws `IllegalArgumentException` if the number is out of range");
        refused(Told.ILLEGAL, x -> x.scaled(0, 10), x -> x.scaled(0, -1));
        taken(x -> x.scaled(0, 9), x -> x.scaled(0, 0));
        t.says("8 Throws `IllegalArgumentException` if the number is out of range");
        refused(Told.ILLEGAL, x -> x.either(9, 0, 0), x -> x.either(-1, 0, 0));
        taken(x -> x.either(8, 0, 0), x -> x.either(0, 0, 0));
    }

    /** Each of these calls is refused on a ledger of its own, and changes nothing there. */
    private void refused(String exception, Ask... asks) {
        for (int i = 0; i < asks.length; i++) {
            Ask ask = asks[i];
            Numeraire x = Story.some();
            String before = Story.lookAtSome(x);
            t.refused("call " + i, exception, () -> ask.answer(x));
            t.due("behind call " + i, before, () -> Story.lookAtSome(x));
        }
    }

    private void taken(Ask... asks) {
        for (int i = 0; i < asks.length; i++) {
            Ask ask = asks[i];
            t.due("call " + i + " just before", true, () -> ask.answer(Story.some()) != null);
        }
    }

    private void makers(int promise, String forWhich, OfNumber... makers) {
        for (OfNumber maker : makers) {
            t.says(promise + " Throws `IndexOutOfBoundsException` if there is no such contract" + forWhich);
            noSuchPart(maker);
            t.says(promise + " Throws `UnsupportedOperationException` if it would be deeper than 6");
            tooDeep(maker);
            t.says(promise + " Throws `IllegalStateException` if there are 24 contracts");
            full(maker);
        }
    }

    private void noSuchPart(OfNumber maker) {
        for (int count : new int[] {1, 6, 23}) {
            Numeraire x = new Numeraire();
            Told.fill(x, count);
            t.refused("the part " + count, Told.INDEX, () -> maker.answer(x, count));
            t.refused("the part -1", Told.INDEX, () -> maker.answer(x, -1));
            t.due("the last part", count, () -> maker.answer(x, count - 1));
        }
        t.refused("no part yet", Told.INDEX, () -> maker.answer(new Numeraire(), 0));
    }

    private void tooDeep(OfNumber maker) {
        Numeraire x = new Numeraire();
        x.one(0);
        for (int i = 0; i < 5; i++) {
            int part = i;
            t.due("of the depth " + (part + 2), part + 1, () -> maker.answer(x, part));
        }
        t.refused("of the depth 7", Told.UNSUPPORTED, () -> maker.answer(x, 5));
        t.refused("no contract came of it", Told.INDEX, () -> x.depthOf(6));
    }

    private void full(OfNumber maker) {
        Numeraire x = new Numeraire();
        Told.fill(x, 23);
        t.due("the 24th", 23, () -> maker.answer(x, 22));
        t.refused("a 25th", Told.STATE, () -> maker.answer(x, 22));
        t.refused("no contract came of it", Told.INDEX, () -> x.depthOf(24));
    }

    private void kinds() {
        t.says("5 Throws `IllegalArgumentException` if there is no such kind");
        refused(Told.ILLEGAL, x -> x.turned('b', 0), x -> x.turned('G', 0), x -> x.turned('o', 0), x -> x.turned('w', 0), x -> x.turned((char) ('g' + 256), 0));
        taken(x -> x.turned('g', 0), x -> x.turned('l', 0));
        t.says("6 Throws `IllegalArgumentException` if there is no such kind");
        refused(Told.ILLEGAL, x -> x.both('i', 0, 0), x -> x.both('g', 0, 0), x -> x.both('E', 0, 0), x -> x.both((char) ('b' + 256), 0, 0));
        taken(x -> x.both('b', 0, 0), x -> x.both('e', 0, 0));
        t.says("9 Throws `IllegalArgumentException` if there is no such kind or day");
        refused(Told.ILLEGAL, x -> x.timed('l', 0, 0), x -> x.timed('e', 0, 0), x -> x.timed('A', 0, 0), x -> x.timed((char) ('u' + 256), 0, 0),
            x -> x.timed('w', 0, 9), x -> x.timed('u', 0, -1), x -> x.timed('a', 0, 9));
        taken(x -> x.timed('w', 0, 8), x -> x.timed('u', 0, 0), x -> x.timed('a', 0, 8));
    }

    private void noContract() {
        OfNumber[] asked = {Numeraire::kindOf, Numeraire::depthOf, (x, n) -> x.value(n, 8, 8), (x, n) -> x.valueAnew(n, 8, 8), Numeraire::price,
            (x, n) -> x.acquire(n, 0, 1)};
        for (int i = 0; i < asked.length; i++) {
            OfNumber ask = asked[i];
            t.says(10 + i + " Throws `IndexOutOfBoundsException` if there is no such contract");
            t.refused("no contract yet", Told.INDEX, () -> ask.answer(new Numeraire(), 0));
            refused(Told.INDEX, x -> ask.answer(x, 6), x -> ask.answer(x, -1), x -> ask.answer(x, 24), x -> ask.answer(x, Integer.MIN_VALUE));
            taken(x -> ask.answer(x, 5), x -> ask.answer(x, 0));
            Numeraire full = new Numeraire();
            Told.fill(full, 24);
            t.due("the 24th", true, () -> ask.answer(full, 23) != null);
            t.refused("a 25th", Told.INDEX, () -> ask.answer(full, 24));
        }
    }

    private void daysAndLevels() {
        t.says("12 Throws `IllegalArgumentException` if there is no such day or level");
        refused(Told.ILLEGAL, x -> x.value(0, 9, 0), x -> x.value(0, -1, 0), x -> x.value(0, -1, -1), x -> x.value(0, 4, 5), x -> x.value(0, 9, 9),
            x -> x.value(0, 4, -1));
        taken(x -> x.value(0, 8, 8), x -> x.value(0, 4, 4), x -> x.value(0, 0, 0));
        t.says("13 Throws `IllegalArgumentException` if there is no such day or level");
        refused(Told.ILLEGAL, x -> x.valueAnew(0, 9, 0), x -> x.valueAnew(0, -1, 0), x -> x.valueAnew(0, -1, -1), x -> x.valueAnew(0, 4, 5),
            x -> x.valueAnew(0, 9, 9), x -> x.valueAnew(0, 4, -1));
        taken(x -> x.valueAnew(0, 8, 8), x -> x.valueAnew(0, 4, 4), x -> x.valueAnew(0, 0, 0));
    }

    private void acquiring() {
        t.says("15 Throws `IllegalArgumentException` if there is no such party, or both are the same");
        refused(Told.ILLEGAL, x -> x.acquire(0, 4, 0), x -> x.acquire(0, -1, 0), x -> x.acquire(0, 0, 4), x -> x.acquire(0, 0, -1), x -> x.acquire(0, 4, 4),
            x -> x.acquire(0, 0, 0), x -> x.acquire(0, 3, 3));
        taken(x -> x.acquire(0, 3, 0), x -> x.acquire(0, 0, 3));
    }

    private void noItem() {
        OfNumber[] asked = {Numeraire::contractOf, Numeraire::holderOf, Numeraire::otherOf, Numeraire::factorOf, (x, n) -> x.choose(n, true), Numeraire::use,
            (x, n) -> x.assign(n, 0)};
        for (int i = 0; i < asked.length; i++) {
            OfNumber ask = asked[i];
            t.says(17 + i + " Throws `IndexOutOfBoundsException` if there is no such item");
            refused(Told.INDEX, x -> ask.answer(x, 3), x -> ask.answer(x, -1), x -> ask.answer(x, 40), x -> ask.answer(x, Integer.MIN_VALUE));
            t.refused("none at all", Told.INDEX, () -> ask.answer(new Numeraire(), 0));
            t.refused("a 41st", Told.INDEX, () -> ask.answer(Story.forty(), 40));
        }
        taken(x -> x.contractOf(2), x -> x.holderOf(2), x -> x.otherOf(2), x -> x.factorOf(2), x -> x.choose(0, true), x -> x.use(1), x -> x.assign(2, 0));
        t.says("23 Throws `IllegalArgumentException` if there is no such party, or it is the other party of the item");
        refused(Told.ILLEGAL, x -> x.assign(0, 4), x -> x.assign(0, -1), x -> x.assign(0, 1), x -> x.assign(1, 2), x -> x.assign(2, 3));
        taken(x -> x.assign(0, 3), x -> x.assign(1, 0), x -> x.assign(2, 2));
    }

    private void otherKinds() {
        t.says("21 Throws `UnsupportedOperationException` if it is of another kind");
        refused(Told.UNSUPPORTED, x -> x.choose(1, true), x -> x.choose(1, false), x -> x.choose(2, true), x -> x.choose(2, false));
        t.says("22 Throws `UnsupportedOperationException` if it is of another kind");
        refused(Told.UNSUPPORTED, x -> x.use(0), x -> x.use(2));
    }

    private void tooManyItems() {
        t.says("15 Throws `IllegalStateException` if there would be more than 40 items");
        forty(1, x -> x.acquire(1, 2, 3));
        forty(2, x -> x.acquire(x.both('b', 0, x.both('b', 1, 1)), 2, 3));
        t.says("21 Throws `IllegalStateException` if there would be more than 40 items");
        forty(2, x -> {
            x.acquire(x.both('e', x.both('b', 0, x.both('b', 1, 1)), 0), 2, 3);
            return x.choose(x.items() - 1, true);
        });
        t.says("22 Throws `IllegalStateException` if there would be more than 40 items");
        forty(2, x -> {
            x.acquire(x.timed('a', x.both('b', 0, x.both('b', 1, 1)), 8), 2, 3);
            return x.use(x.items() - 1);
        });
        t.says("24 Throws `IllegalStateException` if there would be more than 40 items");
        forty(2, x -> {
            x.acquire(x.timed('w', x.both('b', 0, x.both('b', 1, 1)), 1), 2, 3);
            return x.next(true);
        });
        forty(2, x -> {
            x.acquire(x.both('e', x.both('b', 0, x.both('b', 1, 1)), 0), 2, 3);
            return x.next(false);
        });
    }

    /** What brings some items more fits behind those that leave this room, and is refused behind one more. */
    private void forty(int more, Ask ask) {
        for (int items = 40 - more; items <= 41 - more; items++) {
            Numeraire x = Story.forty();
            while (x.items() > items) {
                x.use(0);
            }
            String want = items + more == 40 ? "40" : "throws." + Told.STATE;
            int moves = x.moves();
            t.due(more + " behind " + items, want, () -> ask.answer(x));
            if (items + more > 40) {
                t.due("nothing was given", moves + " 0", () -> x.moves() + " " + x.now());
            }
        }
    }

    private void parties() {
        t.says("25 Throws `IndexOutOfBoundsException` if there is no such party");
        refused(Told.INDEX, x -> x.close(4), x -> x.close(-1));
        taken(x -> x.close(3), x -> x.close(0));
        t.says("26 Throws `IndexOutOfBoundsException` if there is no such party");
        refused(Told.INDEX, x -> x.amount(4, 0), x -> x.amount(-1, 0), x -> x.amount(4, 3));
        t.says("26 Throws `IllegalArgumentException` if there is no such unit");
        refused(Told.ILLEGAL, x -> x.amount(3, 3), x -> x.amount(0, -1));
        taken(x -> x.amount(3, 2), x -> x.amount(0, 0));
        t.says("27 Throws `IndexOutOfBoundsException` if there is no such party");
        refused(Told.INDEX, x -> x.wealth(4), x -> x.wealth(-1));
        taken(x -> x.wealth(3), x -> x.wealth(0));
    }

    private void lastDay() {
        t.says("24 Throws `UnsupportedOperationException` if it is the day 8");
        for (boolean isUp : new boolean[] {false, true}) {
            Numeraire x = Story.some();
            Told.goTo(x, 7, 5);
            t.due("on the day 7", true, () -> x.next(isUp) >= 0);
            String before = Story.lookAtSome(x);
            t.refused("on the day 8", Told.UNSUPPORTED, () -> x.next(isUp));
            t.refused("the other way", Told.UNSUPPORTED, () -> x.next(!isUp));
            t.due("all as it was", before, () -> Story.lookAtSome(x));
        }
    }

    private void noShare() {
        t.says("30 Throws `ArithmeticException` if there are none");
        Numeraire x = Story.some();
        t.refused("of a new one", Told.ARITHMETIC, () -> new Numeraire().openShare());
        x.close(0);
        x.close(1);
        t.due("of one", 0.0f, x::openShare);
        x.close(3);
        t.refused("of none more", Told.ARITHMETIC, x::openShare);
    }
}
