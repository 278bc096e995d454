/** For each promise of the document: ordinary inputs, the edges it names, and wrong inputs, worked out by hand. */
public final class PromiseTest {
    private static final String ILLEGAL = "IllegalArgumentException";
    private static final String INDEX = "IndexOutOfBoundsException";
    private static final String UNSUPPORTED = "UnsupportedOperationException";
    private static final String STATE = "IllegalStateException";
    private static final int LOW = Integer.MIN_VALUE;
    private static final int HIGH = Integer.MAX_VALUE;

    private static final Check check = new Check("PromiseTest");

    private PromiseTest() {
    }

    public static void main(String[] args) {
        promise1();
        promise2();
        promise3();
        promise4();
        promise5();
        promise6();
        promise7();
        promise8();
        promise9();
        promises10And11();
        promise12Kinds();
        promise12Timed();
        promise12WhoChooses();
        promises12And13Wrong();
        promise13();
        promise14();
        promise15Kinds();
        promise15Deepest();
        promise15Timed();
        promise15Wrong();
        promises16To20();
        promise21();
        promise22();
        promise23();
        promise24Choosing();
        promise24Order();
        promise24New();
        promise24Within();
        promise24Wrong();
        promise25();
        promise25Rounding();
        promises26And28();
        promise27();
        promise29();
        promise30();
        promise31();
        check.end();
    }

    private static void promise1() {
        Numeraire x = new Numeraire();
        check.due("1 now", 0, x::now);
        check.due("1 items", 0, x::items);
        check.due("1 moves", 0, x::moves);
        check.due("1 first contract", 0, () -> x.one(0));
        Numeraire y = new Numeraire();
        check.due("1 no contract", "throws." + INDEX, () -> y.kindOf(0));
        for (int i = 0; i < 3; i++) {
            int unit = i;
            check.due("1 worth " + unit, 1, () -> y.worth(unit, 8, 0));
            for (int j = 0; j < 4; j++) {
                int party = j;
                check.due("1 amount", 0, () -> y.amount(party, unit));
            }
        }
    }

    private static void promise2() {
        Numeraire x = new Numeraire();
        check.due("2 on day 0", 10, () -> x.setUnit(1, 10, 9));
        check.due("2 least", -99, () -> x.setUnit(2, -99, -9));
        check.due("2 most", 99, () -> x.setUnit(2, 99, 9));
        check.due("2 the first stays", 19, () -> x.worth(1, 1, 1));
        x.one(1);
        check.due("2 value before", 2560, () -> x.value(0, 0, 0));
        x.next(false);
        check.due("2 below", 1, () -> x.setUnit(1, 4, 3));
        check.due("2 value behind", 1024, () -> x.value(0, 0, 0));
        check.due("2 value of day 1", 128 * 7, () -> x.value(0, 1, 1));
        x.next(true);
        x.next(true);
        check.due("2 above", 4 + 3, () -> x.setUnit(1, 4, 3));
        for (int unit : new int[] {LOW, -1, 0, 3, HIGH}) {
            check.refused("2 setUnit(" + unit + ")", ILLEGAL, x, () -> x.setUnit(unit, 1, 1));
        }
        for (int base : new int[] {LOW, -100, 100, HIGH}) {
            check.refused("2 base " + base, ILLEGAL, x, () -> x.setUnit(1, base, 1));
        }
        for (int slope : new int[] {LOW, -10, 10, HIGH}) {
            check.refused("2 slope " + slope, ILLEGAL, x, () -> x.setUnit(2, 1, slope));
        }
    }

    private static void promise3() {
        Numeraire x = new Numeraire();
        x.setUnit(1, -5, 3);
        x.setUnit(2, 99, -9);
        check.due("3 unit 0", 1, () -> x.worth(0, 8, 8));
        check.due("3 day 0", -5, () -> x.worth(1, 0, 0));
        check.due("3 all up", -5 + 24, () -> x.worth(1, 8, 8));
        check.due("3 all down", -5 - 24, () -> x.worth(1, 8, 0));
        check.due("3 half", -5, () -> x.worth(1, 4, 2));
        check.due("3 falling", 99 - 27, () -> x.worth(2, 5, 4));
        for (int unit : new int[] {LOW, -1, 3, HIGH}) {
            check.refused("3 unit " + unit, ILLEGAL, x, () -> x.worth(unit, 0, 0));
        }
        for (int day : new int[] {LOW, -1, 9, HIGH}) {
            check.refused("3 day " + day, ILLEGAL, x, () -> x.worth(0, day, 0));
        }
        for (int level : new int[] {LOW, -1, 4, HIGH}) {
            check.refused("3 level " + level, ILLEGAL, x, () -> x.worth(0, 3, level));
        }
    }

    private static void promise4() {
        Numeraire x = new Numeraire();
        for (int unit = 0; unit < 3; unit++) {
            int each = unit;
            check.due("4 one(" + unit + ")", unit, () -> x.one(each));
            check.due("4 kind", 'o', () -> x.kindOf(each));
        }
        check.due("4 one(-1)", 3, () -> x.one(-1));
        check.due("4 kind of nothing", 'z', () -> x.kindOf(3));
        for (int unit : new int[] {LOW, -2, 3, HIGH}) {
            check.refused("4 one(" + unit + ")", ILLEGAL, x, () -> x.one(unit));
        }
        fill(x);
        check.refused("4 a 25th", STATE, x, () -> x.one(2));
        check.refused("4 a 25th z", STATE, x, () -> x.one(-1));
        check.refused("4 no unit first", ILLEGAL, x, () -> x.one(3));
    }

    private static void promise5() {
        Numeraire x = new Numeraire();
        x.one(0);
        check.due("5 g", 1, () -> x.turned('g', 0));
        check.due("5 l", 2, () -> x.turned('l', 1));
        check.due("5 kinds", "gl2 3", () -> "" + x.kindOf(1) + x.kindOf(2) + x.depthOf(1) + " " + x.depthOf(2));
        for (char kind : new char[] {'b', 'o', 's', 'G', 0, Character.MAX_VALUE}) {
            check.refused("5 kind " + kind, ILLEGAL, x, () -> x.turned(kind, 99));
        }
        for (int contract : new int[] {LOW, -1, 3, 24, HIGH}) {
            check.refused("5 contract " + contract, INDEX, x, () -> x.turned('l', contract));
        }
        deepen(x);
        check.refused("5 too deep", UNSUPPORTED, x, () -> x.turned('g', 5));
        fill(x);
        check.refused("5 too deep first", UNSUPPORTED, x, () -> x.turned('g', 5));
        check.refused("5 a 25th", STATE, x, () -> x.turned('g', 0));
    }

    private static void promise6() {
        Numeraire x = new Numeraire();
        x.one(0);
        x.turned('g', 0);
        check.due("6 b", 2, () -> x.both('b', 0, 1));
        check.due("6 e", 3, () -> x.both('e', 2, 2));
        check.due("6 kinds", "be3 4", () -> "" + x.kindOf(2) + x.kindOf(3) + x.depthOf(2) + " " + x.depthOf(3));
        check.due("6 depth by the first", 5, () -> x.depthOf(x.both('e', 3, 0)));
        for (char kind : new char[] {'g', 'i', 'B', 0, Character.MAX_VALUE}) {
            check.refused("6 kind " + kind, ILLEGAL, x, () -> x.both(kind, 99, 99));
        }
        for (int contract : new int[] {LOW, -1, 5, 24, HIGH}) {
            check.refused("6 first " + contract, INDEX, x, () -> x.both('b', contract, 0));
            check.refused("6 second " + contract, INDEX, x, () -> x.both('e', 0, contract));
        }
        x.turned('g', 4);
        check.refused("6 too deep first part", UNSUPPORTED, x, () -> x.both('b', 5, 0));
        check.refused("6 too deep second part", UNSUPPORTED, x, () -> x.both('e', 0, 5));
        fill(x);
        check.refused("6 too deep first", UNSUPPORTED, x, () -> x.both('b', 0, 5));
        check.refused("6 a 25th", STATE, x, () -> x.both('b', 0, 0));
    }

    private static void promise7() {
        Numeraire x = new Numeraire();
        x.one(0);
        check.due("7 by 0", 1, () -> x.scaled(0, 0));
        check.due("7 by 9", 2, () -> x.scaled(0, 9));
        check.due("7 kind", "s2", () -> "" + x.kindOf(2) + x.depthOf(2));
        check.due("7 values", "0 2304", () -> x.value(1, 0, 0) + " " + x.value(2, 0, 0));
        for (int contract : new int[] {LOW, -1, 3, 24, HIGH}) {
            check.refused("7 contract " + contract, INDEX, x, () -> x.scaled(contract, 10));
        }
        for (int number : new int[] {LOW, -1, 10, HIGH}) {
            check.refused("7 number " + number, ILLEGAL, x, () -> x.scaled(0, number));
        }
        x.turned('g', 2);
        x.turned('g', 3);
        x.turned('g', 4);
        x.turned('g', 5);
        check.refused("7 too deep", UNSUPPORTED, x, () -> x.scaled(6, 1));
        check.refused("7 number first", ILLEGAL, x, () -> x.scaled(6, 10));
        fill(x);
        check.refused("7 too deep first", UNSUPPORTED, x, () -> x.scaled(6, 1));
        check.refused("7 a 25th", STATE, x, () -> x.scaled(0, 1));
        check.refused("7 number before the 25th", ILLEGAL, x, () -> x.scaled(0, -1));
    }

    private static void promise8() {
        Numeraire x = new Numeraire();
        x.one(0);
        x.turned('g', 0);
        check.due("8 by 0", 2, () -> x.either(0, 0, 1));
        check.due("8 by 8", 3, () -> x.either(8, 0, 1));
        check.due("8 kind", "i3", () -> "" + x.kindOf(2) + x.depthOf(2));
        check.due("8 not less", 256, () -> x.value(2, 0, 0));
        check.due("8 less", -256, () -> x.value(3, 0, 0));
        check.due("8 the same", 1, () -> x.value(3, 8, 8));
        check.due("8 one less", -1, () -> x.value(3, 8, 7));
        for (int number : new int[] {LOW, -1, 9, HIGH}) {
            check.refused("8 number " + number, ILLEGAL, x, () -> x.either(number, 99, 99));
        }
        for (int contract : new int[] {LOW, -1, 4, 24, HIGH}) {
            check.refused("8 first " + contract, INDEX, x, () -> x.either(0, contract, 0));
            check.refused("8 second " + contract, INDEX, x, () -> x.either(0, 0, contract));
        }
        x.turned('g', 3);
        x.turned('g', 4);
        x.turned('g', 5);
        check.refused("8 too deep first part", UNSUPPORTED, x, () -> x.either(0, 6, 0));
        check.refused("8 too deep second part", UNSUPPORTED, x, () -> x.either(0, 0, 6));
        fill(x);
        check.refused("8 too deep first", UNSUPPORTED, x, () -> x.either(0, 0, 6));
        check.refused("8 a 25th", STATE, x, () -> x.either(0, 0, 0));
    }

    private static void promise9() {
        Numeraire x = new Numeraire();
        x.one(0);
        check.due("9 w", 1, () -> x.timed('w', 0, 0));
        check.due("9 u", 2, () -> x.timed('u', 0, 8));
        check.due("9 a", 3, () -> x.timed('a', 0, 4));
        check.due("9 kinds", "wua2", () -> "" + x.kindOf(1) + x.kindOf(2) + x.kindOf(3) + x.depthOf(3));
        for (char kind : new char[] {'g', 'b', 'W', 0, Character.MAX_VALUE}) {
            check.refused("9 kind " + kind, ILLEGAL, x, () -> x.timed(kind, 0, 0));
        }
        for (int day : new int[] {LOW, -1, 9, HIGH}) {
            check.refused("9 day " + day, ILLEGAL, x, () -> x.timed('w', 99, day));
        }
        for (int contract : new int[] {LOW, -1, 4, 24, HIGH}) {
            check.refused("9 contract " + contract, INDEX, x, () -> x.timed('u', contract, 8));
        }
        x.timed('w', 3, 8);
        x.timed('w', 4, 8);
        x.timed('w', 5, 8);
        x.timed('w', 6, 8);
        check.refused("9 too deep", UNSUPPORTED, x, () -> x.timed('a', 7, 8));
        fill(x);
        check.refused("9 too deep first", UNSUPPORTED, x, () -> x.timed('a', 7, 8));
        check.refused("9 a 25th", STATE, x, () -> x.timed('a', 0, 8));
    }

    private static void promises10And11() {
        Numeraire x = new Numeraire();
        x.one(-1);
        x.one(0);
        x.both('b', 0, 1);
        check.due("10", "zob", () -> "" + x.kindOf(0) + x.kindOf(1) + x.kindOf(2));
        check.due("11", "112", () -> "" + x.depthOf(0) + x.depthOf(1) + x.depthOf(2));
        for (int contract : new int[] {LOW, -1, 3, 24, HIGH}) {
            check.refused("10 contract " + contract, INDEX, x, () -> x.kindOf(contract));
            check.refused("11 contract " + contract, INDEX, x, () -> x.depthOf(contract));
        }
    }

    private static void promise12Kinds() {
        Numeraire x = new Numeraire();
        x.setUnit(1, 10, 2);
        int unit = x.one(1);
        int nothing = x.one(-1);
        int given = x.turned('g', unit);
        int leveled = x.turned('l', unit);
        int added = x.both('b', unit, given);
        int best = x.both('e', given, nothing);
        int thrice = x.scaled(given, 3);
        due12(x, "o", unit, 4, 3, 16 * 14);
        due12(x, "o on day 8", unit, 8, 0, 10 - 16);
        due12(x, "z", nothing, 0, 0, 0);
        due12(x, "g", given, 4, 3, -16 * 14);
        due12(x, "l", leveled, 4, 3, 3 * 16 * 14);
        due12(x, "l at level 0", leveled, 4, 0, 0);
        due12(x, "b", added, 2, 1, 0);
        due12(x, "e, the second", best, 4, 3, 0);
        due12(x, "e, the first", best, 8, 0, 6);
        due12(x, "s", thrice, 4, 3, -48 * 14);
    }

    private static void promise12Timed() {
        Numeraire x = new Numeraire();
        x.setUnit(1, 0, 1);
        int unit = x.one(1);
        int later = x.timed('w', unit, 2);
        int until = x.timed('u', unit, 2);
        int may = x.timed('a', unit, 2);
        int high = x.either(1, x.one(0), x.one(-1));
        int laterHigh = x.timed('w', high, 1);
        due12(x, "w ahead", later, 0, 0, 0);
        due12(x, "w a day ahead", later, 1, 1, 128);
        due12(x, "w on its day", later, 2, 2, 128);
        due12(x, "w behind its day", later, 3, 3, 96);
        due12(x, "w by the mean", laterHigh, 0, 0, 128);
        due12(x, "u ahead", until, 1, 1, 128);
        due12(x, "u on its day", until, 2, 2, 128);
        due12(x, "u behind its day", until, 3, 3, 0);
        due12(x, "a, by its mean", may, 0, 0, 128);
        due12(x, "a in the middle", may, 1, 0, 0);
        due12(x, "a, used at the end", may, 2, 2, 128);
        due12(x, "a, not used", may, 2, 0, 0);
        due12(x, "a, past", may, 3, 3, 0);
        x.setUnit(1, 3, -1);
        due12(x, "a as the units are now", may, 0, 0, 256 * 3);
        due12(x, "a of what falls, used at once or never", may, 2, 2, 64);
    }

    private static void promise12WhoChooses() {
        Numeraire x = new Numeraire();
        x.setUnit(1, 0, 1);
        int unit = x.one(1);
        int may = x.timed('a', unit, 2);
        int owed = x.turned('g', may);
        due12(x, "who gives an 'a' does not choose", owed, 0, 0, -128);
        int best = x.both('e', unit, x.one(-1));
        due12(x, "who gives an 'e' does not choose", x.turned('g', best), 1, 0, 0);
        due12(x, "nor when it falls due", x.turned('g', best), 1, 1, -128);
        int after = x.timed('w', best, 1);
        due12(x, "an 'e' is chosen on its day", after, 0, 0, 128);
        int laterAt = x.turned('l', x.timed('w', x.one(0), 4));
        due12(x, "'l' by the level of its own day", laterAt, 2, 1, 64);
        due12(x, "an 'a' in an 'a'", x.timed('a', may, 8), 3, 3, 0);
    }

    private static void due12(Numeraire x, String what, int contract, int day, int level, long want) {
        check.due("12 " + what, want, () -> x.value(contract, day, level));
        check.due("13 " + what, want, () -> x.valueAnew(contract, day, level));
    }

    private static void promises12And13Wrong() {
        Numeraire x = new Numeraire();
        x.one(0);
        for (int contract : new int[] {LOW, -1, 1, 24, HIGH}) {
            check.refused("12 contract " + contract, INDEX, x, () -> x.value(contract, 9, 0));
            check.refused("13 contract " + contract, INDEX, x, () -> x.valueAnew(contract, 9, 0));
        }
        for (int day : new int[] {LOW, -1, 9, HIGH}) {
            check.refused("12 day " + day, ILLEGAL, x, () -> x.value(0, day, 0));
            check.refused("13 day " + day, ILLEGAL, x, () -> x.valueAnew(0, day, 0));
        }
        for (int level : new int[] {LOW, -1, 8, HIGH}) {
            check.refused("12 level " + level, ILLEGAL, x, () -> x.value(0, 7, level));
            check.refused("13 level " + level, ILLEGAL, x, () -> x.valueAnew(0, 7, level));
        }
    }

    private static void promise13() {
        for (int contract = 0; contract <= 10; contract++) {
            Numeraire x = new Numeraire();
            int last = makeManyKinds(x);
            check.due("13 the last contract", 10, () -> last);
            for (int day = 0; day <= 8; day++) {
                for (int level = 0; level <= day; level++) {
                    due12(x, "either way " + contract + " " + day + " " + level, contract, day, level, x.value(contract, day, level));
                }
            }
        }
    }

    private static int makeManyKinds(Numeraire x) {
        x.setUnit(1, 3, -4);
        x.setUnit(2, -7, 9);
        int one = x.one(1);
        int two = x.one(2);
        int best = x.both('e', one, two);
        int may = x.timed('a', best, 6);
        int owed = x.turned('g', x.timed('a', x.turned('l', two), 5));
        int sum = x.both('b', may, owed);
        x.timed('w', sum, 3);
        return x.both('e', sum, x.either(2, owed, may));
    }

    private static void promise14() {
        Numeraire x = new Numeraire();
        int high = x.either(1, x.one(0), x.one(-1));
        int later = x.timed('w', high, 1);
        int owed = x.turned('g', later);
        int latest = x.timed('w', x.either(8, 0, 1), 8);
        check.due("14 a half", 0.5, () -> x.price(later));
        check.due("14 below 0", -0.5, () -> x.price(owed));
        check.due("14 nothing", 0.0, () -> x.price(1));
        check.due("14 least", 1.0 / 256, () -> x.price(latest));
        x.next(true);
        check.due("14 a day later", 1.0 / 128, () -> x.price(latest));
        for (int day = 1; day < 8; day++) {
            x.next(true);
        }
        check.due("14 on day 8", 1.0, () -> x.price(latest));
        for (int contract : new int[] {LOW, -1, 7, 24, HIGH}) {
            check.refused("14 contract " + contract, INDEX, x, () -> x.price(contract));
        }
    }

    private static void promise15Kinds() {
        Numeraire x = new Numeraire();
        int unit = x.one(1);
        check.due("15 o", 0, () -> x.acquire(unit, 2, 3));
        check.due("15 from the other", "1 -1 0 1", () -> x.amount(2, 1) + " " + x.amount(3, 1) + " " + x.amount(2, 0) + " " + x.moves());
        check.due("15 z", 0, () -> x.acquire(x.one(-1), 0, 1));
        check.due("15 z moves nothing", 1, x::moves);
        x.acquire(x.turned('g', unit), 0, 1);
        check.due("15 g", "-1 1", () -> x.amount(0, 1) + " " + x.amount(1, 1));
        x.acquire(x.both('b', unit, x.scaled(unit, 4)), 0, 1);
        check.due("15 b and s", "4 -4 4", () -> x.amount(0, 1) + " " + x.amount(1, 1) + " " + x.moves());
        x.acquire(x.scaled(unit, 0), 0, 1);
        check.due("15 nothing is a move", 5, x::moves);
        int leveled = x.turned('l', unit);
        x.acquire(leveled, 0, 1);
        check.due("15 l at level 0", "4 6", () -> x.amount(0, 1) + " " + x.moves());
        int high = x.either(2, unit, x.turned('g', unit));
        x.next(true);
        x.acquire(high, 0, 1);
        check.due("15 i below", 3, () -> x.amount(0, 1));
        x.next(true);
        x.acquire(high, 0, 1);
        check.due("15 i not below", 4, () -> x.amount(0, 1));
        x.acquire(leveled, 0, 1);
        check.due("15 l", 6, () -> x.amount(0, 1));
        int choice = x.both('e', unit, high);
        check.due("15 e", 1, () -> x.acquire(choice, 1, 0));
        check.due("15 an e stands", choice, () -> x.contractOf(0));
    }

    private static void promise15Deepest() {
        Numeraire x = new Numeraire();
        x.one(2);
        for (int part = 0; part < 5; part++) {
            x.scaled(part, 9);
        }
        check.due("15 of the depth 6", "0 59049 -59049", () -> x.acquire(5, 3, 2) + " " + x.amount(3, 2) + " " + x.amount(2, 2));
        Numeraire y = new Numeraire();
        y.timed('a', y.one(0), 8);
        for (int part = 1; part < 5; part++) {
            y.both('b', part, part);
        }
        check.due("15 all of the depth 6", "16 32", () -> y.acquire(5, 0, 1) + " " + y.acquire(5, 0, 1));
        check.refused("15 none of more than 40", STATE, y, () -> y.acquire(5, 0, 1));
    }

    private static void promise15Timed() {
        Numeraire x = new Numeraire();
        int unit = x.one(0);
        int later = x.timed('w', unit, 1);
        int until = x.timed('u', unit, 1);
        int may = x.timed('a', unit, 1);
        check.due("15 w ahead", 1, () -> x.acquire(later, 0, 1));
        check.due("15 u ahead", 1, () -> x.acquire(until, 2, 3));
        check.due("15 u at once", 1, () -> x.amount(2, 0));
        check.due("15 a ahead", 2, () -> x.acquire(may, 0, 1));
        check.due("15 next", 1, () -> x.next(false));
        check.due("15 w on its day", "1 2", () -> x.acquire(later, 0, 1) + " " + x.amount(0, 0));
        check.due("15 u on its day", "1 2", () -> x.acquire(until, 2, 3) + " " + x.amount(2, 0));
        check.due("15 a on its day", 2, () -> x.acquire(may, 0, 1));
        check.due("15 both a are out", 0, () -> x.next(false));
        check.due("15 w behind", "0 3", () -> x.acquire(later, 0, 1) + " " + x.amount(0, 0));
        check.due("15 u behind", "0 2", () -> x.acquire(until, 2, 3) + " " + x.amount(2, 0));
        check.due("15 a behind", "0 3", () -> x.acquire(may, 0, 1) + " " + x.amount(0, 0));
    }

    private static void promise15Wrong() {
        Numeraire x = new Numeraire();
        int unit = x.one(0);
        int may = x.timed('a', unit, 8);
        int more = x.both('b', unit, x.both('b', may, may));
        for (int contract : new int[] {LOW, -1, 4, 24, HIGH}) {
            check.refused("15 contract " + contract, INDEX, x, () -> x.acquire(contract, 9, 9));
        }
        for (int party : new int[] {LOW, -1, 4, HIGH}) {
            check.refused("15 holder " + party, ILLEGAL, x, () -> x.acquire(unit, party, 0));
            check.refused("15 other " + party, ILLEGAL, x, () -> x.acquire(unit, 0, party));
        }
        check.refused("15 the same", ILLEGAL, x, () -> x.acquire(unit, 2, 2));
        for (int i = 0; i < 39; i++) {
            x.acquire(may, 0, 1);
        }
        check.refused("15 a 41st", STATE, x, () -> x.acquire(more, 0, 1));
        check.refused("15 the same first", ILLEGAL, x, () -> x.acquire(more, 1, 1));
        check.due("15 the 40th", 40, () -> x.acquire(may, 0, 1));
        check.refused("15 another 41st", STATE, x, () -> x.acquire(may, 0, 1));
        check.due("15 none more", "40 1", () -> x.acquire(unit, 0, 1) + " " + x.amount(0, 0));
    }

    private static void promises16To20() {
        Numeraire x = new Numeraire();
        int may = x.timed('a', x.one(0), 8);
        int owed = x.turned('g', may);
        int scaled = x.scaled(x.scaled(owed, 9), 7);
        int leveled = x.turned('l', may);
        check.due("16 none", 0, x::items);
        x.acquire(may, 0, 3);
        x.acquire(x.both('b', scaled, may), 1, 2);
        check.due("16 three", 3, x::items);
        check.due("17 to 20 the first", "1 0 3 1", () -> item(x, 0));
        check.due("17 to 20 the second", "1 2 1 63", () -> item(x, 1));
        check.due("17 to 20 the third", "1 1 2 1", () -> item(x, 2));
        x.acquire(leveled, 3, 0);
        check.due("20 factor 0", "1 3 0 0", () -> item(x, 3));
        x.next(true);
        x.next(true);
        x.next(true);
        x.acquire(leveled, 3, 0);
        check.due("20 factor 3", "1 3 0 3", () -> item(x, 4));
        for (int item : new int[] {LOW, -1, 5, 40, HIGH}) {
            check.refused("17 item " + item, INDEX, x, () -> x.contractOf(item));
            check.refused("18 item " + item, INDEX, x, () -> x.holderOf(item));
            check.refused("19 item " + item, INDEX, x, () -> x.otherOf(item));
            check.refused("20 item " + item, INDEX, x, () -> x.factorOf(item));
        }
    }

    private static void promise21() {
        Numeraire x = new Numeraire();
        int unit = x.one(1);
        int may = x.timed('a', unit, 8);
        int choice = x.both('e', unit, x.both('b', unit, x.both('b', may, may)));
        x.acquire(x.scaled(choice, 5), 0, 1);
        x.acquire(may, 2, 3);
        check.due("21 the first", 1, () -> x.choose(0, true));
        check.due("21 its holder acquires it", "5 -5 1", () -> x.amount(0, 1) + " " + x.amount(1, 1) + " " + x.moves());
        x.acquire(x.turned('g', choice), 0, 1);
        x.acquire(may, 3, 2);
        check.due("21 the second", 4, () -> x.choose(1, false));
        check.due("21 its places", "1 2 3 1, 1 3 2 1, 1 1 0 1", () -> item(x, 0) + ", " + item(x, 1) + ", " + item(x, 2));
        check.due("21 its amount", "4 -4", () -> x.amount(0, 1) + " " + x.amount(1, 1));
        for (int item : new int[] {LOW, -1, 4, 40, HIGH}) {
            check.refused("21 item " + item, INDEX, x, () -> x.choose(item, true));
        }
        check.refused("21 an a", UNSUPPORTED, x, () -> x.choose(0, true));
        x.acquire(choice, 0, 1);
        for (int i = x.items(); i < 40; i++) {
            x.acquire(may, 0, 1);
        }
        check.refused("21 a 41st", STATE, x, () -> x.choose(4, false));
        check.refused("21 another kind first", UNSUPPORTED, x, () -> x.choose(39, false));
        x.use(0);
        check.due("21 the 40th", 40, () -> x.choose(3, false));
    }

    private static void promise22() {
        Numeraire x = new Numeraire();
        int unit = x.one(1);
        int later = x.timed('w', unit, 8);
        int may = x.timed('a', unit, 3);
        int more = x.timed('a', x.both('b', unit, x.both('b', later, later)), 8);
        x.acquire(x.scaled(may, 2), 0, 1);
        x.acquire(later, 0, 1);
        check.refused("22 a w", UNSUPPORTED, x, () -> x.use(1));
        check.due("22 at once", 1, () -> x.use(0));
        check.due("22 the factor", "2 -2 1", () -> x.amount(0, 1) + " " + x.amount(1, 1) + " " + x.moves());
        check.refused("22 once", UNSUPPORTED, x, () -> x.use(0));
        x.acquire(may, 2, 3);
        for (int day = 0; day < 3; day++) {
            x.next(false);
        }
        check.due("22 on its last day", "1 1", () -> x.use(1) + " " + x.amount(2, 1));
        x.acquire(more, 0, 1);
        x.acquire(may, 0, 1);
        check.due("22 its places", 4, () -> x.use(1));
        check.due("22 new ones stand behind", "1 2 1 1", () -> x.contractOf(0) + " " + x.contractOf(1) + " " + x.contractOf(2) + " " + x.contractOf(3));
        for (int item : new int[] {LOW, -1, 4, 40, HIGH}) {
            check.refused("22 item " + item, INDEX, x, () -> x.use(item));
        }
        x.acquire(more, 0, 1);
        for (int i = x.items(); i < 40; i++) {
            x.acquire(later, 0, 1);
        }
        check.refused("22 a 41st", STATE, x, () -> x.use(4));
        check.refused("22 another kind first", UNSUPPORTED, x, () -> x.use(0));
        x.acquire(unit, 0, 1);
        x.use(1);
        check.due("22 the 40th", 40, () -> x.use(3));
    }

    private static void promise23() {
        Numeraire x = new Numeraire();
        int may = x.timed('a', x.one(0), 8);
        x.acquire(may, 0, 1);
        x.acquire(may, 2, 3);
        check.due("23 the holder before", 0, () -> x.assign(0, 3));
        check.due("23 the new one", "1 3 1 1, 1 2 3 1", () -> item(x, 0) + ", " + item(x, 1));
        check.due("23 the same", 3, () -> x.assign(0, 3));
        check.due("23 it uses it", "1 1 0", () -> x.use(0) + " " + x.amount(3, 0) + " " + x.amount(0, 0));
        for (int item : new int[] {LOW, -1, 1, 40, HIGH}) {
            check.refused("23 item " + item, INDEX, x, () -> x.assign(item, 9));
        }
        for (int party : new int[] {LOW, -1, 3, 4, HIGH}) {
            check.refused("23 party " + party, ILLEGAL, x, () -> x.assign(0, party));
        }
    }

    private static void promise24Choosing() {
        Numeraire x = new Numeraire();
        x.setUnit(1, 0, 5);
        x.setUnit(2, 1, 0);
        int one = x.one(1);
        int two = x.one(2);
        int nothing = x.one(-1);
        int choice = x.both('e', one, two);
        x.acquire(choice, 0, 1);
        check.due("24 by the day before", "0 0 1", () -> x.next(true) + " " + x.amount(0, 1) + " " + x.amount(0, 2));
        x.acquire(choice, 0, 1);
        check.due("24 the first", "0 1 1", () -> x.next(false) + " " + x.amount(0, 1) + " " + x.amount(0, 2));
        x.setUnit(2, 0, 0);
        x.acquire(choice, 0, 1);
        check.due("24 as much: the first", "0 2 1", () -> x.next(true) + " " + x.amount(0, 1) + " " + x.amount(0, 2));
        x.acquire(x.turned('g', x.both('e', nothing, one)), 2, 3);
        check.due("24 its holder chooses", "0 1 -1", () -> x.next(true) + " " + x.amount(3, 1) + " " + x.amount(2, 1));
        x.acquire(x.both('e', choice, nothing), 0, 1);
        check.due("24 one that comes by one", "0 3", () -> x.next(true) + " " + x.amount(0, 1));
        x.acquire(x.scaled(choice, 0), 0, 1);
        check.due("24 of the factor 0", "0 3 6", () -> x.next(true) + " " + x.amount(0, 1) + " " + x.moves());
    }

    private static void promise24Order() {
        Numeraire x = new Numeraire();
        int unit = x.one(0);
        int may = x.timed('a', unit, 5);
        int past = x.timed('a', unit, 0);
        int later = x.timed('w', may, 1);
        int twice = x.both('e', x.both('b', past, x.scaled(may, 2)), unit);
        int laterStill = x.timed('w', unit, 2);
        x.acquire(later, 0, 1);
        x.acquire(twice, 1, 0);
        x.acquire(past, 0, 1);
        x.acquire(laterStill, 2, 3);
        x.acquire(may, 2, 3);
        x.acquire(later, 3, 2);
        check.due("24 how many", 5, () -> x.next(true));
        check.due("24 the day", 11, x::now);
        String want = laterStill + " 2 3 1, " + may + " 2 3 1, " + may + " 1 0 2, " + may + " 0 1 1, " + may + " 3 2 1";
        check.due("24 in their order", want, () -> item(x, 0) + ", " + item(x, 1) + ", " + item(x, 2) + ", " + item(x, 3) + ", " + item(x, 4));
        check.due("24 a w on its day", "4 1 -1", () -> x.next(false) + " " + x.amount(2, 0) + " " + x.amount(3, 0));
    }

    private static void promise24New() {
        Numeraire x = new Numeraire();
        int unit = x.one(0);
        int choice = x.both('e', unit, x.one(-1));
        int atOnce = x.timed('w', x.timed('w', unit, 1), 2);
        int next = x.timed('w', x.timed('a', unit, 1), 1);
        int late = x.timed('w', x.timed('a', unit, 1), 2);
        x.acquire(x.turned('l', x.timed('w', x.turned('l', choice), 1)), 0, 1);
        x.acquire(x.timed('w', choice, 1), 0, 1);
        x.acquire(atOnce, 2, 3);
        x.acquire(next, 2, 3);
        x.acquire(late, 2, 3);
        check.due("24 new ones", "5 0", () -> x.next(true) + " " + x.moves());
        check.due("24 an e stays on its new day", "ee", () -> kinds(x, 0, 5).replace("w", "").replace("a", ""));
        check.due("24 in the order of what brought them", "0 1", () -> x.factorOf(2) + " " + x.factorOf(3));
        check.due("24 and is chosen on the next", "0 3", () -> x.next(true) + " " + x.moves());
        check.due("24 what came", "1 1", () -> x.amount(0, 0) + " " + x.amount(2, 0));
        Numeraire y = new Numeraire();
        y.one(0);
        y.timed('w', 0, 3);
        y.turned('l', 1);
        y.next(true);
        y.next(true);
        y.acquire(2, 0, 1);
        y.next(true);
        check.due("24 l by the level of its own day", 2, () -> y.amount(0, 0));
    }

    private static void promise24Within() {
        Numeraire x = new Numeraire();
        int unit = x.one(0);
        int may = x.timed('a', unit, 0);
        int later = x.timed('w', unit, 1);
        int pasts = x.both('e', eight(x, may), unit);
        int dues = x.both('e', eight(x, later), unit);
        for (int i = 0; i < 40; i++) {
            x.acquire(pasts, 0, 1);
        }
        check.due("24 only behind the call 40 at most", "0 0", () -> x.next(true) + " " + x.moves());
        Numeraire y = new Numeraire();
        y.one(0);
        int choice = y.both('e', eight(y, y.timed('w', 0, 1)), 0);
        for (int i = 0; i < 40; i++) {
            y.acquire(choice, 0, 1);
        }
        check.due("24 more than 40 within, by w", "0 320 320", () -> y.next(true) + " " + y.moves() + " " + y.amount(0, 0));
        check.due("24 a w on its day at once", 0, () -> x.acquire(later, 0, 1));
        x.acquire(dues, 0, 1);
        check.due("24 e of w behind", "0 9", () -> x.next(true) + " " + x.moves());
    }

    private static int eight(Numeraire x, int contract) {
        int two = x.both('b', contract, contract);
        int four = x.both('b', two, two);
        return x.both('b', four, four);
    }

    private static void promise24Wrong() {
        Numeraire x = new Numeraire();
        int unit = x.one(0);
        int may = x.timed('a', unit, 8);
        int later = x.timed('w', eight(x, may), 1);
        int choice = x.both('e', unit, may);
        x.acquire(choice, 2, 3);
        for (int i = 0; i < 32; i++) {
            x.acquire(may, 0, 1);
        }
        x.acquire(later, 0, 1);
        x.acquire(may, 0, 1);
        check.refused("24 a 41st", STATE, x, () -> x.next(true));
        check.refused("24 a 41st, down", STATE, x, () -> x.next(false));
        x.use(1);
        check.due("24 the 40th", "40 11", () -> x.next(true) + " " + x.now());
        for (int day = 1; day < 8; day++) {
            x.next(day % 2 == 0);
        }
        check.due("24 the last day", "84 40", () -> x.now() + " " + x.items());
        check.refused("24 no day more", UNSUPPORTED, x, () -> x.next(true));
    }

    private static void promise25() {
        Numeraire x = new Numeraire();
        x.setUnit(1, 6, 2);
        int unit = x.one(1);
        int later = x.timed('w', unit, 8);
        int may = x.timed('a', unit, 0);
        int choice = x.both('e', x.one(-1), unit);
        x.acquire(x.scaled(later, 2), 0, 1);
        x.acquire(later, 2, 3);
        x.acquire(may, 3, 0);
        x.acquire(choice, 2, 3);
        x.acquire(x.scaled(choice, 0), 1, 0);
        check.due("25 its own", 3, () -> x.close(0));
        check.due("25 the others stay", later + " 2 3 1, " + choice + " 2 3 1", () -> item(x, 0) + ", " + item(x, 1));
        check.due("25 in the unit 0", "6 -12 0 6 3", () -> x.amount(0, 0) + " " + x.amount(1, 0) + " " + x.amount(2, 0) + " " + x.amount(3, 0) + " " + x.moves());
        check.due("25 no other unit", "0 0", () -> x.amount(0, 1) + " " + x.amount(1, 1));
        check.due("25 none", "0 3", () -> x.close(1) + " " + x.moves());
        x.assign(0, 1);
        x.next(false);
        check.due("25 as the other party", "1 2 -8", () -> x.close(3) + " " + x.amount(3, 0) + " " + x.amount(1, 0));
        for (int party : new int[] {LOW, -1, 4, HIGH}) {
            check.refused("25 party " + party, INDEX, x, () -> x.close(party));
        }
    }

    private static void promise25Rounding() {
        Numeraire x = new Numeraire();
        int high = x.either(1, x.one(0), x.one(-1));
        int half = x.timed('w', high, 1);
        int owed = x.timed('w', x.turned('g', high), 1);
        x.acquire(half, 0, 1);
        check.due("25 a half, down", "1 0 1", () -> x.close(0) + " " + x.amount(0, 0) + " " + x.moves());
        x.acquire(x.scaled(half, 7), 0, 1);
        check.due("25 the factor first", "1 3", () -> x.close(1) + " " + x.amount(0, 0));
        x.acquire(owed, 2, 3);
        check.due("25 less than 0, down", "1 -1 1", () -> x.close(2) + " " + x.amount(2, 0) + " " + x.amount(3, 0));
        x.acquire(x.turned('g', half), 2, 3);
        check.due("25 a half that it owes", "1 -1 1", () -> x.close(2) + " " + x.amount(2, 0) + " " + x.amount(3, 0));
        x.acquire(half, 2, 3);
        x.acquire(half, 2, 3);
        check.due("25 each by itself", "2 -1", () -> x.close(2) + " " + x.amount(2, 0));
        int late = x.timed('w', x.either(8, 0, 1), 8);
        for (int day = 0; day < 7; day++) {
            x.next(true);
        }
        x.acquire(x.scaled(late, 3), 0, 1);
        check.due("25 on the day 7", "1 4", () -> x.close(0) + " " + x.amount(0, 0));
    }

    private static void promises26And28() {
        Numeraire x = new Numeraire();
        for (int unit = 0; unit < 3; unit++) {
            x.one(unit);
            x.acquire(unit, unit, 3);
        }
        check.due("26 each", "1 0 0, 0 1 0, 0 0 1, -1 -1 -1", () -> amounts(x, 0) + ", " + amounts(x, 1) + ", " + amounts(x, 2) + ", " + amounts(x, 3));
        check.due("28", 3, x::moves);
        for (int party : new int[] {LOW, -1, 4, HIGH}) {
            check.refused("26 party " + party, INDEX, x, () -> x.amount(party, 9));
        }
        for (int unit : new int[] {LOW, -1, 3, HIGH}) {
            check.refused("26 unit " + unit, ILLEGAL, x, () -> x.amount(0, unit));
        }
    }

    private static void promise27() {
        Numeraire x = new Numeraire();
        x.setUnit(1, 5, 3);
        int unit = x.one(1);
        int later = x.timed('w', unit, 4);
        x.acquire(unit, 0, 1);
        x.acquire(x.scaled(later, 2), 2, 0);
        check.due("27 at first", "-1280 -1280 2560 0", () -> wealths(x));
        x.next(true);
        check.due("27 a day later", "-1024 -1024 2048 0", () -> wealths(x));
        x.assign(0, 3);
        check.due("27 handed on", "-1024 -1024 0 2048", () -> wealths(x));
        x.setUnit(1, -1, 0);
        check.due("27 of other units", "128 128 0 -256", () -> wealths(x));
        x.acquire(x.one(0), 3, 1);
        x.acquire(x.scaled(x.one(2), 3), 1, 2);
        check.due("27 of all units", "128 384 -384 -128", () -> wealths(x));
        for (int party : new int[] {LOW, -1, 4, HIGH}) {
            check.refused("27 party " + party, INDEX, x, () -> x.wealth(party));
        }
    }

    private static void promise29() {
        Numeraire x = new Numeraire();
        StringBuilder seen = new StringBuilder();
        for (int day = 0; day < 8; day++) {
            seen.append(x.now()).append(' ');
            x.next(day % 3 == 0);
        }
        check.due("29", "0 11 21 31 42 52 62 73 83", () -> seen.toString() + x.now());
    }

    private static void promise30() {
        Numeraire x = new Numeraire();
        int unit = x.one(0);
        int may = x.timed('a', unit, 0);
        int later = x.timed('w', unit, 8);
        check.refused("30 none", "ArithmeticException", x, x::openShare);
        x.acquire(later, 0, 1);
        check.due("30 no a", 0.0f, x::openShare);
        x.acquire(may, 0, 1);
        x.acquire(may, 0, 1);
        check.due("30 two of three", 2.0f / 3.0f, x::openShare);
        x.use(2);
        check.due("30 a half", 0.5f, x::openShare);
        x.close(0);
        x.acquire(may, 0, 1);
        x.acquire(may, 0, 1);
        x.acquire(later, 0, 1);
        x.acquire(later, 0, 1);
        x.acquire(later, 0, 1);
        check.due("30 two of five", 2.0f / 5.0f, x::openShare);
        x.close(1);
        check.refused("30 none again", "ArithmeticException", x, x::openShare);
    }

    private static void promise31() {
        Numeraire x = new Numeraire();
        check.due("31 a new one", true, x::isSound);
        x.setUnit(1, -98, 9);
        x.setUnit(2, 97, -9);
        int best = x.both('e', x.one(1), x.one(2));
        int may = x.timed('a', x.turned('l', best), 7);
        int all = x.both('b', x.turned('g', may), x.either(3, may, best));
        for (int day = 0; day < 8; day++) {
            x.acquire(all, day % 4, (day + 1) % 4);
            check.due("31 on day " + day, true, x::isSound);
            x.next(day % 3 != 0);
            check.due("31 behind day " + day, true, x::isSound);
        }
        x.setUnit(1, 3, -4);
        check.due("31 with other units", true, x::isSound);
        x.close(2);
        check.due("31 closed", true, x::isSound);
    }

    private static String item(Numeraire x, int item) {
        return x.contractOf(item) + " " + x.holderOf(item) + " " + x.otherOf(item) + " " + x.factorOf(item);
    }

    private static String kinds(Numeraire x, int from, int to) {
        StringBuilder kinds = new StringBuilder();
        for (int item = from; item < to; item++) {
            kinds.append(x.kindOf(x.contractOf(item)));
        }
        return kinds.toString();
    }

    private static String amounts(Numeraire x, int party) {
        return x.amount(party, 0) + " " + x.amount(party, 1) + " " + x.amount(party, 2);
    }

    private static String wealths(Numeraire x) {
        return x.wealth(0) + " " + x.wealth(1) + " " + x.wealth(2) + " " + x.wealth(3);
    }

    private static void deepen(Numeraire x) {
        x.turned('g', 2);
        x.turned('g', 3);
        x.turned('g', 4);
    }

    private static void fill(Numeraire x) {
        int made = 0;
        for (int i = 0; i < 24 && made < 23; i++) {
            made = x.one(0);
        }
        check.same("the 24th", "23", String.valueOf(made));
    }
}
