/** The range of each parameter of each promise: its last allowed values, and the first refused ones, on both sides. */
public final class RangeTest {
    private static final Check check = new Check("RangeTest");

    /** A call with one number. */
    private interface OfNumber {
        Object answer(Numeraire x, int number);
    }

    /** A call with a character. */
    private interface OfKind {
        Object answer(Numeraire x, char kind);
    }

    private RangeTest() {
    }

    public static void main(String[] args) {
        promise2();
        promise3();
        promise4();
        promises5And6();
        promise7();
        promise8();
        promise9();
        promises10To14();
        promises12And13();
        promise15();
        promises17To20();
        promises21And22();
        promise23();
        promise24();
        promises25And27();
        promise27();
        promise26();
        promise28();
        promise30();
        nothingThereYet();
        check.end();
    }

    /** A ledger with 6 contracts of the depths 1 to 5, and the three items e, a and w, on the day 3. */
    private static Numeraire someLedger() {
        Numeraire x = new Numeraire();
        int unit = x.one(1);
        int may = x.timed('a', unit, 8);
        int choice = x.both('e', may, unit);
        int later = x.timed('w', choice, 8);
        x.turned('g', later);
        x.scaled(later, 2);
        Told.goTo(x, 3, 2);
        x.acquire(choice, 0, 1);
        x.acquire(may, 1, 2);
        x.acquire(later, 2, 3);
        return x;
    }

    /** Each number from least to most is taken, each on a ledger of its own; those outside are refused and change nothing. */
    private static void range(String what, int least, int most, String exception, OfNumber call) {
        for (int number = least; number <= most; number++) {
            Numeraire x = someLedger();
            int each = number;
            check.due(what + " " + number + " is allowed", true, () -> call.answer(x, each) != null);
        }
        String before = summary(someLedger());
        for (int number : Told.outside(least, most)) {
            Numeraire x = someLedger();
            check.due(what + " " + number, "throws." + exception, () -> call.answer(x, number));
            check.same("behind " + what + " " + number, before, summary(x));
        }
    }

    /** Of all characters, those told alone are taken. */
    private static void kinds(String what, String allowed, OfKind call) {
        for (int from = 0; from <= Character.MAX_VALUE; from += 128) {
            Numeraire x = someLedger();
            for (int i = from; i < from + 128; i++) {
                char kind = (char) i;
                if (allowed.indexOf(kind) < 0) {
                    check.due(what + " of the character " + i, "throws." + Told.ILLEGAL, () -> call.answer(x, kind));
                } else {
                    check.due(what + " of " + kind, "6" + kind, () -> call.answer(someLedger(), kind));
                }
            }
            check.due("no contract by " + what, "throws." + Told.INDEX, () -> x.kindOf(6));
        }
    }

    private static String summary(Numeraire x) {
        StringBuilder all = new StringBuilder();
        for (int contract = 0; contract < 6; contract++) {
            all.append(x.kindOf(contract)).append(x.depthOf(contract)).append(x.value(contract, 0, 0)).append(x.value(contract, 8, 7)).append(' ');
        }
        return all + Check.told(() -> x.kindOf(6)) + x.worth(1, 8, 8) + " " + x.worth(2, 8, 8) + " " + Told.amounts(x) + " " + Told.wealths(x) + " "
            + Told.items(x) + " " + x.moves() + " " + x.now() + " " + x.openShare() + x.isSound();
    }

    private static void promise2() {
        range("2 setUnit unit", 1, 2, Told.ILLEGAL, (x, n) -> x.setUnit(n, 3, 4));
        range("2 setUnit base", -99, 99, Told.ILLEGAL, (x, n) -> x.setUnit(1, n, 0));
        range("2 setUnit slope", -9, 9, Told.ILLEGAL, (x, n) -> x.setUnit(2, 0, n));
        for (int unit = 1; unit <= 2; unit++) {
            int each = unit;
            Numeraire x = someLedger();
            check.due("2 on the day 3 at the level 2", 108, () -> x.setUnit(each, 99, 9));
            check.due("2 least", -108, () -> x.setUnit(each, -99, -9));
            check.due("2 it is kept", -171, () -> x.worth(each, 8, 8));
            check.due("2 the other unit stays", 1, () -> x.worth(3 - each, 8, 8));
            check.due("2 of 0", 0, () -> x.setUnit(each, 0, 0));
        }
    }

    private static void promise3() {
        range("3 worth unit", 0, 2, Told.ILLEGAL, (x, n) -> x.worth(n, 8, 8));
        range("3 worth day", 0, 8, Told.ILLEGAL, (x, n) -> x.worth(1, n, 0));
        for (int d = 0; d <= 8; d++) {
            int day = d;
            range("3 worth level on " + day, 0, day, Told.ILLEGAL, (x, n) -> x.worth(1, day, n));
        }
    }

    private static void promise4() {
        range("4 one unit", -1, 2, Told.ILLEGAL, Numeraire::one);
        for (int u = -1; u <= 2; u++) {
            int unit = u;
            Numeraire x = new Numeraire();
            check.due("4 the first", 0, () -> x.one(unit));
            check.due("4 its kind", unit == -1 ? 'z' : 'o', () -> x.kindOf(0));
            check.due("4 its depth", 1, () -> x.depthOf(0));
            Told.fill(x, 23);
            check.due("4 the 24th", 23, () -> x.one(unit));
            check.due("4 a 25th", "throws." + Told.STATE, () -> x.one(unit));
        }
    }

    private static void promises5And6() {
        kinds("5 turned", "gl", (x, kind) -> x.turned(kind, 0) + "" + x.kindOf(6));
        range("5 turned contract", 0, 5, Told.INDEX, (x, n) -> x.turned('g', n));
        kinds("6 both", "be", (x, kind) -> x.both(kind, 0, 1) + "" + x.kindOf(6));
        for (char kind : "be".toCharArray()) {
            range("6 both first", 0, 5, Told.INDEX, (x, n) -> x.both(kind, n, 0));
            range("6 both second", 0, 5, Told.INDEX, (x, n) -> x.both(kind, 0, n));
        }
    }

    private static void promise7() {
        range("7 scaled contract", 0, 5, Told.INDEX, (x, n) -> x.scaled(n, 9));
        range("7 scaled number", 0, 9, Told.ILLEGAL, (x, n) -> x.scaled(0, n));
        for (int n = 0; n <= 9; n++) {
            int number = n;
            Numeraire x = someLedger();
            check.due("7 by " + number, "6 s " + number * 256, () -> x.scaled(0, number) + " " + x.kindOf(6) + " " + x.value(6, 0, 0));
        }
    }

    private static void promise8() {
        range("8 either number", 0, 8, Told.ILLEGAL, (x, n) -> x.either(n, 0, 1));
        range("8 either first", 0, 5, Told.INDEX, (x, n) -> x.either(0, n, 0));
        range("8 either second", 0, 5, Told.INDEX, (x, n) -> x.either(0, 0, n));
        check.due("8 its kind", "6i", () -> {
            Numeraire x = someLedger();
            return x.either(8, 0, 0) + "" + x.kindOf(6);
        });
    }

    private static void promise9() {
        kinds("9 timed", "wua", (x, kind) -> x.timed(kind, 0, 0) + "" + x.kindOf(6));
        for (char kind : "wua".toCharArray()) {
            range("9 timed contract", 0, 5, Told.INDEX, (x, n) -> x.timed(kind, n, 8));
            range("9 timed day", 0, 8, Told.ILLEGAL, (x, n) -> x.timed(kind, 0, n));
        }
    }

    private static void promises10To14() {
        range("10 kindOf", 0, 5, Told.INDEX, Numeraire::kindOf);
        range("11 depthOf", 0, 5, Told.INDEX, Numeraire::depthOf);
        range("12 value contract", 0, 5, Told.INDEX, (x, n) -> x.value(n, 8, 8));
        range("13 valueAnew contract", 0, 5, Told.INDEX, (x, n) -> x.valueAnew(n, 8, 8));
        range("14 price", 0, 5, Told.INDEX, Numeraire::price);
        Numeraire full = new Numeraire();
        Told.fill(full, 24);
        check.due("10 and 11 the 24th", "z1", () -> full.kindOf(23) + "" + full.depthOf(23));
        check.due("12 to 14 the 24th", "0 0 0.0", () -> full.value(23, 0, 0) + " " + full.valueAnew(23, 0, 0) + " " + full.price(23));
        OfNumber[] asked = {Numeraire::kindOf, Numeraire::depthOf, (x, n) -> x.value(n, 0, 0), (x, n) -> x.valueAnew(n, 0, 0), Numeraire::price};
        for (OfNumber each : asked) {
            check.due("10 to 14 a 25th", "throws." + Told.INDEX, () -> each.answer(full, 24));
        }
    }

    private static void promises12And13() {
        range("12 value day", 0, 8, Told.ILLEGAL, (x, n) -> x.value(5, n, 0));
        range("13 valueAnew day", 0, 8, Told.ILLEGAL, (x, n) -> x.valueAnew(5, n, 0));
        for (int d = 0; d <= 8; d++) {
            int day = d;
            range("12 value level on " + day, 0, day, Told.ILLEGAL, (x, n) -> x.value(5, day, n));
            range("13 valueAnew level on " + day, 0, day, Told.ILLEGAL, (x, n) -> x.valueAnew(5, day, n));
        }
        Numeraire x = new Numeraire();
        int part = x.one(2);
        x.setUnit(2, 99, 9);
        for (int i = 0; i < 5; i++) {
            part = x.scaled(part, 9);
        }
        check.due("12 the most", 59049L * 99 * 256, () -> x.value(5, 0, 0));
        check.due("13 the most", 59049L * 99 * 256, () -> x.valueAnew(5, 0, 0));
        check.due("14 the most", 59049.0 * 99, () -> x.price(5));
        x.setUnit(2, -99, -9);
        check.due("12 the least", -59049L * 99 * 256, () -> x.value(5, 0, 0));
        check.due("13 the least of the last day", -59049L * 171, () -> x.valueAnew(5, 8, 8));
    }

    private static void promise15() {
        range("15 acquire contract", 0, 5, Told.INDEX, (x, n) -> x.acquire(n, 0, 1));
        range("15 acquire holder", 0, 2, Told.ILLEGAL, (x, n) -> x.acquire(1, n, 3));
        range("15 acquire other", 1, 3, Told.ILLEGAL, (x, n) -> x.acquire(1, 0, n));
        range("15 acquire as 3", 0, 2, Told.ILLEGAL, (x, n) -> x.acquire(1, 3, n));
        range("15 acquire from 0", 1, 3, Told.ILLEGAL, (x, n) -> x.acquire(1, n, 0));
        Numeraire full = new Numeraire();
        Told.fill(full, 23);
        full.one(1);
        check.due("15 the 24th contract", "0 1", () -> full.acquire(23, 3, 0) + " " + full.amount(3, 1));
        check.due("15 a 25th", "throws." + Told.INDEX, () -> full.acquire(24, 3, 0));
    }

    private static void promises17To20() {
        range("17 contractOf", 0, 2, Told.INDEX, Numeraire::contractOf);
        range("18 holderOf", 0, 2, Told.INDEX, Numeraire::holderOf);
        range("19 otherOf", 0, 2, Told.INDEX, Numeraire::otherOf);
        range("20 factorOf", 0, 2, Told.INDEX, Numeraire::factorOf);
        Numeraire x = crowded();
        check.due("17 to 20 the 40th", "1 0 1 1", () -> Told.item(x, 39));
        OfNumber[] asked = {Numeraire::contractOf, Numeraire::holderOf, Numeraire::otherOf, Numeraire::factorOf, (y, n) -> y.choose(n, true), Numeraire::use,
            (y, n) -> y.assign(n, 0)};
        for (OfNumber each : asked) {
            check.due("17 to 23 a 41st", "throws." + Told.INDEX, () -> each.answer(x, 40));
        }
        x.use(39);
        for (OfNumber each : asked) {
            check.due("17 to 23 the 40th, done", "throws." + Told.INDEX, () -> each.answer(x, 39));
        }
        check.due("16 left", 39, x::items);
    }

    /** 40 items: an a of a unit each. */
    private static Numeraire crowded() {
        Numeraire x = new Numeraire();
        x.timed('a', x.one(0), 8);
        Told.crowd(x, 1, 40);
        return x;
    }

    private static void promises21And22() {
        for (int item : Told.outside(0, 2)) {
            Numeraire x = someLedger();
            String before = summary(x);
            check.due("21 choose " + item, "throws." + Told.INDEX, () -> x.choose(item, true));
            check.due("21 choose the second of " + item, "throws." + Told.INDEX, () -> x.choose(item, false));
            check.due("22 use " + item, "throws." + Told.INDEX, () -> x.use(item));
            check.same("21 and 22 nothing changes", before, summary(x));
        }
        String[] chosen = {"3", "throws." + Told.UNSUPPORTED, "throws." + Told.UNSUPPORTED};
        String[] used = {"throws." + Told.UNSUPPORTED, "2", "throws." + Told.UNSUPPORTED};
        for (int item = 0; item <= 2; item++) {
            int each = item;
            check.due("21 choose " + item, chosen[item], () -> someLedger().choose(each, true));
            check.due("22 use " + item, used[item], () -> someLedger().use(each));
        }
        check.due("21 the second", 2, () -> someLedger().choose(0, false));
        check.due("22 the 40th item", 39, () -> crowded().use(39));
        Numeraire x = new Numeraire();
        x.both('e', x.one(0), 0);
        Told.crowd(x, 1, 40);
        check.due("21 the 40th item", 39, () -> x.choose(39, false));
    }

    private static void promise23() {
        range("23 assign item", 0, 2, Told.INDEX, (x, n) -> x.assign(n, n));
        range("23 assign party, not to 3", 0, 2, Told.ILLEGAL, (x, n) -> x.assign(2, n));
        for (int h = 0; h <= 3; h++) {
            for (int o = 0; o <= 3; o++) {
                if (h != o) {
                    assignAmong(h, o);
                }
            }
        }
        check.due("23 the 40th item", 0, () -> crowded().assign(39, 3));
    }

    private static void assignAmong(int holder, int other) {
        for (int p = 0; p <= 3; p++) {
            int party = p;
            Numeraire x = new Numeraire();
            x.acquire(x.timed('a', x.one(0), 8), holder, other);
            String want = party == other ? "throws." + Told.ILLEGAL : "" + holder;
            check.due("23 from " + holder + " to " + party + ", against " + other, want, () -> x.assign(0, party));
            check.due("23 the holder then", party == other ? holder : party, () -> x.holderOf(0));
            check.due("23 the other party then", other, () -> x.otherOf(0));
        }
    }

    private static void promise24() {
        for (boolean up : new boolean[] {false, true}) {
            Numeraire x = new Numeraire();
            for (int d = 1; d <= 8; d++) {
                int day = d;
                check.due("24 next to " + day, "0 " + (up ? 11 * day : 10 * day), () -> x.next(up) + " " + x.now());
            }
            check.due("24 behind the day 8", "throws." + Told.UNSUPPORTED, () -> x.next(up));
            check.due("24 nor the other way", "throws." + Told.UNSUPPORTED, () -> x.next(!up));
            check.due("29 now", up ? 88 : 80, x::now);
        }
    }

    private static void promises25And27() {
        range("25 close", 0, 3, Told.INDEX, Numeraire::close);
        range("27 wealth", 0, 3, Told.INDEX, Numeraire::wealth);
        int[] closed = {1, 2, 2, 1};
        for (int p = 0; p <= 3; p++) {
            int party = p;
            check.due("25 how many of " + party, closed[party], () -> someLedger().close(party));
        }
    }

    private static void promise27() {
        Numeraire x = new Numeraire();
        x.setUnit(1, -2, 3);
        x.setUnit(2, 7, -9);
        int[] units = {x.one(0), x.one(1), x.one(2)};
        int minus = x.timed('w', x.turned('g', x.one(0)), 8);
        for (int unit : units) {
            x.acquire(unit, 0, 1);
        }
        check.due("27 of amounts, on the day 0", 256 * (1 - 2 + 7) + " " + -256 * (1 - 2 + 7) + " 0 0", () -> Told.wealths(x));
        x.acquire(x.scaled(minus, 3), 2, 3);
        check.due("27 of an item that is worth less than 0", 256 * 6 + " " + -256 * 6 + " " + -3 * 256 + " " + 3 * 256, () -> Told.wealths(x));
        x.acquire(x.scaled(minus, 0), 0, 3);
        check.due("27 of the factor 0", 256 * 6 + " " + -256 * 6 + " " + -3 * 256 + " " + 3 * 256, () -> Told.wealths(x));
        x.assign(0, 1);
        check.due("27 of who holds it now", 256 * 6 + " " + -256 * 9 + " 0 " + 3 * 256, () -> Told.wealths(x));
        Told.goTo(x, 7, 0);
        check.due("27 on the day 7", 2 * (1 - 23 + 70) + " " + -2 * (48 + 3) + " 0 6", () -> Told.wealths(x));
        x.next(false);
        check.due("27 on the day 8, times 1", (1 - 26 + 79) + " " + -(54 + 3) + " 0 3", () -> Told.wealths(x));
        check.due("27 no item more", "0 -4 3", () -> x.items() + " " + x.amount(1, 0) + " " + x.amount(3, 0));
    }

    private static void promise26() {
        range("26 amount party", 0, 3, Told.INDEX, (x, n) -> x.amount(n, 2));
        range("26 amount unit", 0, 2, Told.ILLEGAL, (x, n) -> x.amount(3, n));
    }

    private static void promise28() {
        Numeraire x = new Numeraire();
        int part = x.one(1);
        for (int i = 0; i < 5; i++) {
            part = x.both('b', part, part);
        }
        for (int i = 1; i <= 150; i++) {
            int times = i;
            check.due("28 moves and amounts of 32 each", "0 " + 32 * times + " " + -32 * times, () -> x.acquire(5, 1, 3) + " " + x.moves() + " " + x.amount(3, 1));
        }
    }

    private static void promise30() {
        for (int all = 1; all <= 40; all += 3) {
            for (int open = 0; open <= all; open += 5) {
                Numeraire x = new Numeraire();
                int later = x.timed('w', x.one(0), 8);
                int may = x.timed('a', 0, 8);
                Told.crowd(x, may, open);
                Told.crowd(x, later, all);
                float want = (float) open / (float) all;
                check.due("30 " + open + " of " + all, want, x::openShare);
            }
        }
        check.due("30 all of 40", 1.0f, () -> crowded().openShare());
        check.due("30 none at all", "throws." + Told.ARITHMETIC, () -> new Numeraire().openShare());
    }

    private static void nothingThereYet() {
        Numeraire x = new Numeraire();
        for (int n : new int[] {Integer.MIN_VALUE, -1, 0, 1, 23, 24, 39, 40, Integer.MAX_VALUE}) {
            OfNumber[] asked = {(y, i) -> y.turned('g', i), (y, i) -> y.both('b', i, i), (y, i) -> y.scaled(i, 0), (y, i) -> y.either(0, i, i),
                (y, i) -> y.timed('w', i, 0), Numeraire::kindOf, Numeraire::depthOf, (y, i) -> y.value(i, 0, 0), (y, i) -> y.valueAnew(i, 0, 0),
                Numeraire::price, (y, i) -> y.acquire(i, 0, 1), Numeraire::contractOf, Numeraire::holderOf, Numeraire::otherOf, Numeraire::factorOf,
                (y, i) -> y.choose(i, true), Numeraire::use, (y, i) -> y.assign(i, 0)};
            for (int call = 0; call < asked.length; call++) {
                OfNumber each = asked[call];
                check.due("nothing there yet: call " + call + " with " + n, "throws." + Told.INDEX, () -> each.answer(x, n));
            }
        }
        check.due("nothing there yet: openShare", "throws." + Told.ARITHMETIC, x::openShare);
        check.due("nothing there yet: the rest", "0 0 0 true 0 0", () -> x.items() + " " + x.moves() + " " + x.now() + " " + x.isSound() + " " + x.close(2) + " " + x.moves());
        check.due("nothing there yet: wealth", "0 0 0 0", () -> Told.wealths(x));
        check.due("the first contract is 0 still", 0, () -> x.one(-1));
        check.due("nothing there yet: next", "0 11", () -> x.next(true) + " " + x.now());
    }
}
