/** What all amounts add up to, "Ledger", "Items", "Next day", "Closing", "Exceptions" and "Clarifications", sentence by sentence. */
final class LedgerTerms {
    private final Terms t;

    LedgerTerms(Terms t) {
        this.t = t;
    }

    void all() {
        asking();
        inAll();
        parties();
        moves();
        whatIsAnItem();
        whatAnItemHas();
        orderOfItems();
        fortyByAcquire();
        fortyByChoose();
        fortyByUse();
        fortyByNext();
        moreWithinNext();
        chosenByNext();
        chosenByValue();
        chosenInOrder();
        chosenBeforehand();
        becomesTold();
        doneByNext();
        broughtByNext();
        closing();
        closingRoundedDown();
        closingWhatStands();
        exceptions();
        pastA();
        levelOfItsOwnDay();
        factorNought();
        newChoices();
        atOnce();
        neverTheSame();
    }

    private void asking() {
        t.says("Units, contracts, acquirings, choices and days come by calls; values, items, amounts and wealth are asked.");
        Numeraire quiet = new Numeraire();
        Story.open(quiet);
        String later = Story.later(quiet);
        for (int part = 0; part < Story.PARTS; part++) {
            Numeraire asked = new Numeraire();
            Story.open(asked);
            Story.look(asked, part);
            t.due("what comes later, part " + part + " asked", later, () -> Story.later(asked));
        }
    }

    private void inAll() {
        t.says("All amounts add up to nothing in every unit, and the value by the tree is that by all ways.");
        Numeraire x = new Numeraire();
        Story.crowded(x);
        for (int round = 0; round < 8; round++) {
            for (int unit = 0; unit <= 2; unit++) {
                long sum = x.amount(0, unit) + x.amount(1, unit) + x.amount(2, unit) + x.amount(3, unit);
                t.due("all of the unit " + unit, 0, () -> sum);
            }
            t.due("all wealth", 0, () -> x.wealth(0) + x.wealth(1) + x.wealth(2) + x.wealth(3));
            t.due("sound", true, x::isSound);
            Check.told(() -> x.choose(0, false));
            Check.told(() -> x.use(1));
            Check.told(() -> x.next(true));
            Check.told(() -> x.acquire(x.now() % 24, 2, 0));
            Check.told(() -> x.close(3));
        }
        for (int contract = 0; contract < 24; contract++) {
            Numeraire y = new Numeraire();
            Story.crowded(y);
            for (int day = 0; day <= 8; day += 2) {
                for (int level = 0; level <= day; level++) {
                    t.value("the contract " + contract, y, contract, day, level, y.value(contract, day, level));
                }
            }
        }
    }

    private void parties() {
        t.says("There are the parties 0 to 3, with an amount of each unit, 0 at first, which may be less than 0.");
        Numeraire x = new Numeraire();
        int unit = x.one(1);
        int may = x.timed('a', unit, 8);
        t.due("at first", "0 0 0, 0 0 0, 0 0 0, 0 0 0", () -> Told.amounts(x));
        t.due("wealth at first", "0 0 0 0", () -> Told.wealths(x));
        for (int p = 0; p <= 3; p++) {
            int party = p;
            int next = (p + 1) % 4;
            int third = (p + 2) % 4;
            t.due("party " + party + " acquires", 1, () -> x.acquire(may, party, next));
            t.due("hands it on", party, () -> x.assign(0, third));
            t.due("the third one has it", third, () -> x.holderOf(0));
            t.due("the third one is closed", 1, () -> x.close(third));
        }
        for (int party : Told.outside(0, 3)) {
            t.refused("amount of " + party, Told.INDEX, () -> x.amount(party, 0));
            t.refused("wealth of " + party, Told.INDEX, () -> x.wealth(party));
            t.refused("close " + party, Told.INDEX, () -> x.close(party));
            t.refused("acquire as " + party, Told.ILLEGAL, () -> x.acquire(unit, party, 0));
            t.refused("acquire from " + party, Told.ILLEGAL, () -> x.acquire(unit, 0, party));
        }
        Numeraire y = new Numeraire();
        y.one(2);
        for (int part = 0; part < 5; part++) {
            y.scaled(part, 9);
        }
        for (int i = 0; i < 3; i++) {
            y.acquire(5, 0, 1);
        }
        y.acquire(0, 1, 0);
        t.due("less than 0", "0 0 177146, 0 0 -177146, 0 0 0, 0 0 0", () -> Told.amounts(y));
        y.acquire(5, 1, 0);
        y.acquire(5, 1, 0);
        y.acquire(5, 1, 0);
        t.due("from less to more", "0 0 -1, 0 0 1, 0 0 0, 0 0 0", () -> Told.amounts(y));
    }

    private void moves() {
        t.says("By each giving, an amount goes from one party to another one; this is a move, also if it is 0.");
        Numeraire x = new Numeraire();
        int unit = x.one(0);
        int none = x.scaled(unit, 0);
        int leveled = x.turned('l', unit);
        int six = x.both('b', x.both('b', unit, none), x.both('b', x.both('b', leveled, unit), x.both('b', unit, unit)));
        t.due("none at first", 0, x::moves);
        x.acquire(unit, 0, 1);
        t.due("one", 1, x::moves);
        x.acquire(none, 0, 1);
        t.due("one of 0", 2, x::moves);
        x.acquire(leveled, 2, 3);
        t.due("one of 0, by the level", 3, x::moves);
        x.acquire(x.one(-1), 2, 3);
        t.due("none by nothing", 3, x::moves);
        x.acquire(six, 2, 3);
        t.due("six at once", "9 1 -1 4 -4", () -> x.moves() + " " + x.amount(0, 0) + " " + x.amount(1, 0) + " " + x.amount(2, 0) + " " + x.amount(3, 0));
        x.acquire(x.timed('a', none, 3), 0, 1);
        t.due("none by an item that comes", 9, x::moves);
        x.use(0);
        t.due("one of 0 by using it", 10, x::moves);
        x.acquire(x.timed('w', none, 3), 0, 1);
        x.close(1);
        t.due("one of 0 by closing", 11, x::moves);
        x.close(1);
        t.due("none by closing what is closed", 11, x::moves);
    }

    private void whatIsAnItem() {
        t.says("What was acquired and is not done is an item: a 'w' whose day is ahead, an 'e' that was not chosen, an 'a' that was not used and"
            + " whose day is not past.");
        Numeraire x = new Numeraire();
        int unit = x.one(0);
        int[] none = {unit, x.one(-1), x.turned('g', unit), x.turned('l', unit), x.both('b', unit, unit), x.scaled(unit, 9), x.either(3, unit, unit),
            x.timed('u', unit, 8), x.timed('u', unit, 0), x.timed('w', unit, 0)};
        for (int contract : none) {
            t.due("none by " + x.kindOf(contract), 0, () -> x.acquire(contract, 0, 1));
        }
        int day2 = x.timed('w', unit, 2);
        int choice = x.both('e', unit, unit);
        int may2 = x.timed('a', unit, 2);
        t.due("a w whose day is ahead", 1, () -> x.acquire(day2, 0, 1));
        t.due("an e", 2, () -> x.acquire(choice, 0, 1));
        t.due("an a", 3, () -> x.acquire(may2, 0, 1));
        t.due("the next day", "2 wa", () -> x.next(true) + " " + Told.kinds(x));
        t.due("a w and an a on the day before", "3 4", () -> x.acquire(day2, 0, 1) + " " + x.acquire(may2, 0, 1));
        t.due("their day", "2 aa", () -> x.next(true) + " " + Told.kinds(x));
        t.due("a w on its day", 2, () -> x.acquire(day2, 0, 1));
        t.due("an a on its day", 3, () -> x.acquire(may2, 0, 1));
        t.due("behind their day", 0, () -> x.next(true));
        t.due("a w behind its day", 0, () -> x.acquire(day2, 0, 1));
        t.due("an a behind its day", 0, () -> x.acquire(may2, 0, 1));
        t.due("an e on any day", 1, () -> x.acquire(choice, 0, 1));
        t.due("chosen", 0, () -> x.choose(0, true));
        int last = x.timed('a', unit, 8);
        Told.goTo(x, 8, 8);
        t.due("an a on the day 8", 1, () -> x.acquire(last, 0, 1));
        t.due("an e on the day 8", 2, () -> x.acquire(choice, 0, 1));
        t.due("used", 1, () -> x.use(0));
    }

    private void whatAnItemHas() {
        t.says("An item has a holder, who acquired it, another party, and a factor, the product of the numbers by which its amounts are multiplied.");
        Numeraire x = new Numeraire();
        int may = x.timed('a', x.one(0), 8);
        int given = x.turned('g', may);
        int much = x.scaled(x.scaled(x.scaled(given, 9), 9), 9);
        int none = x.scaled(x.scaled(may, 0), 9);
        int leveled = x.turned('l', x.scaled(may, 7));
        Told.goTo(x, 4, 3);
        x.acquire(may, 0, 1);
        x.acquire(given, 0, 1);
        x.acquire(much, 3, 2);
        x.acquire(none, 2, 0);
        x.acquire(leveled, 1, 3);
        String want = may + " 0 1 1, " + may + " 1 0 1, " + may + " 2 3 729, " + may + " 2 0 0, " + may + " 1 3 21";
        t.due("each", want, () -> Told.items(x));
        for (int item : Told.outside(0, 4)) {
            t.refused("contractOf(" + item + ")", Told.INDEX, () -> x.contractOf(item));
            t.refused("holderOf(" + item + ")", Told.INDEX, () -> x.holderOf(item));
            t.refused("otherOf(" + item + ")", Told.INDEX, () -> x.otherOf(item));
            t.refused("factorOf(" + item + ")", Told.INDEX, () -> x.factorOf(item));
        }
        Numeraire y = new Numeraire();
        int inner = y.timed('a', y.scaled(y.one(1), 3), 8);
        int outer = y.timed('a', y.scaled(inner, 2), 8);
        y.acquire(y.scaled(outer, 4), 0, 1);
        t.due("one that comes by one", "1 8", () -> y.use(0) + " " + y.factorOf(0));
        t.due("what it gives", "0 24 -24", () -> y.use(0) + " " + y.amount(0, 1) + " " + y.amount(1, 1));
    }

    private void orderOfItems() {
        t.says("Behind a call, at most 40 items stand in the order in which they came; one that is done is taken out first.");
        Numeraire x = new Numeraire();
        int unit = x.one(0);
        int may = x.timed('a', unit, 8);
        int later = x.timed('w', unit, 8);
        int choice = x.both('e', x.both('b', may, later), unit);
        int twice = x.timed('a', x.both('b', later, may), 8);
        x.acquire(choice, 0, 1);
        x.acquire(may, 0, 1);
        x.acquire(twice, 2, 3);
        x.acquire(later, 0, 1);
        t.due("a choice's part stands behind all", 5, () -> x.choose(0, true));
        t.due("in the order, chosen", "1 0 1 1, 6 2 3 1, 2 0 1 1, 1 0 1 1, 2 0 1 1", () -> Told.items(x));
        t.due("what is used brings its part behind all", 6, () -> x.use(1));
        t.due("in the order, used", "1 0 1 1, 2 0 1 1, 1 0 1 1, 2 0 1 1, 2 2 3 1, 1 2 3 1", () -> Told.items(x));
        t.due("one in the middle is used", 5, () -> x.use(2));
        t.due("the others move up", "1 0 1 1, 2 0 1 1, 2 0 1 1, 2 2 3 1, 1 2 3 1", () -> Told.items(x));
        t.due("the last one is used", 4, () -> x.use(4));
        t.due("the others stay", "1 0 1 1, 2 0 1 1, 2 0 1 1, 2 2 3 1", () -> Told.items(x));
        t.due("handing on keeps the places", 0, () -> x.assign(1, 3));
        t.due("in the order, handed on", "1 0 1 1, 2 3 1 1, 2 0 1 1, 2 2 3 1", () -> Told.items(x));
    }

    private void fortyByAcquire() {
        Numeraire x = new Numeraire();
        int unit = x.one(0);
        int may = x.timed('a', unit, 8);
        int two = x.both('b', may, may);
        int paid = x.both('b', unit, two);
        for (int i = 1; i <= 40; i++) {
            int number = i;
            t.due("the item " + number, number, () -> x.acquire(may, 0, 1));
        }
        t.refused("a 41st", Told.STATE, () -> x.acquire(may, 2, 3));
        t.refused("two more", Told.STATE, () -> x.acquire(two, 2, 3));
        t.refused("two more, which something is given before", Told.STATE, () -> x.acquire(paid, 2, 3));
        t.due("nothing was given", "40 0 0", () -> x.items() + " " + x.moves() + " " + x.amount(2, 0));
        t.due("what is no item", 40, () -> x.acquire(unit, 2, 3));
        t.due("a w at once", 40, () -> x.acquire(x.timed('w', unit, 0), 2, 3));
        t.due("one is used", 39, () -> x.use(39));
        t.refused("two at 39", Told.STATE, () -> x.acquire(paid, 2, 3));
        t.due("nothing was given at 39", "39 3", () -> x.items() + " " + x.moves());
        t.due("another one is used", 38, () -> x.use(0));
        t.due("two at 38", "40 5", () -> x.acquire(paid, 2, 3) + " " + x.moves());
        Numeraire y = new Numeraire();
        y.timed('a', y.one(0), 8);
        for (int part = 1; part < 5; part++) {
            y.both('b', part, part);
        }
        Told.crowd(y, 1, 25);
        t.refused("16 at 25", Told.STATE, () -> y.acquire(5, 0, 1));
        y.use(0);
        t.due("16 at 24", 40, () -> y.acquire(5, 0, 1));
    }

    private void fortyByChoose() {
        Numeraire x = new Numeraire();
        int unit = x.one(0);
        int may = x.timed('a', unit, 8);
        int one = x.both('e', may, unit);
        int two = x.both('e', x.both('b', unit, x.both('b', may, may)), unit);
        x.acquire(one, 0, 1);
        x.acquire(two, 0, 1);
        x.acquire(two, 2, 3);
        Told.crowd(x, may, 40);
        t.due("one for one at 40", "40 0", () -> x.choose(0, true) + " " + x.moves());
        t.refused("two for one at 40", Told.STATE, () -> x.choose(1, true));
        t.due("it stands where it stood", two + " 0 1 1, " + two + " 2 3 1, 40 0", () -> Told.item(x, 0) + ", " + Told.item(x, 1) + ", " + x.items() + " " + x.moves());
        t.due("none for one at 40", "39 1", () -> x.choose(1, false) + " " + x.moves());
        t.due("two for one at 39", "40 2", () -> x.choose(0, true) + " " + x.moves());
    }

    private void fortyByUse() {
        Numeraire x = new Numeraire();
        int unit = x.one(0);
        int later = x.timed('w', unit, 8);
        int one = x.timed('a', later, 8);
        int two = x.timed('a', x.both('b', unit, x.both('b', later, later)), 8);
        x.acquire(one, 0, 1);
        x.acquire(two, 0, 1);
        Told.crowd(x, later, 39);
        x.acquire(x.timed('a', unit, 8), 2, 3);
        t.due("one for one at 40", "40 0", () -> x.use(0) + " " + x.moves());
        t.refused("two for one at 40", Told.STATE, () -> x.use(0));
        t.due("it stands where it stood", two + " 0 1 1, 40 0", () -> Told.item(x, 0) + ", " + x.items() + " " + x.moves());
        t.due("none for one at 40", "39 1", () -> x.use(38) + " " + x.moves());
        t.due("two for one at 39", "40 2", () -> x.use(0) + " " + x.moves());
    }

    private void fortyByNext() {
        Numeraire x = new Numeraire();
        int unit = x.one(0);
        int may = x.timed('a', unit, 8);
        int one = x.timed('w', may, 1);
        int two = x.timed('w', x.both('b', unit, x.both('b', may, may)), 2);
        int twoChosen = x.both('e', x.both('b', unit, x.both('b', may, may)), x.one(-1));
        x.acquire(one, 0, 1);
        x.acquire(two, 0, 1);
        Told.crowd(x, may, 40);
        t.due("one for a w", "40 0 10", () -> x.next(false) + " " + x.moves() + " " + x.now());
        t.refused("two for a w", Told.STATE, () -> x.next(false));
        t.refused("two for a w, up", Told.STATE, () -> x.next(true));
        t.due("the day stays", "40 0 10 " + two, () -> x.items() + " " + x.moves() + " " + x.now() + " " + x.contractOf(0));
        x.use(5);
        t.due("two for a w at 39", "40 2 21", () -> x.next(true) + " " + x.moves() + " " + x.now());
        x.use(0);
        x.acquire(twoChosen, 0, 1);
        t.refused("two for an e", Told.STATE, () -> x.next(true));
        t.due("the e stands", "40 3 21 " + twoChosen, () -> x.items() + " " + x.moves() + " " + x.now() + " " + x.contractOf(39));
        x.use(0);
        t.due("two for an e at 39", "40 5 32", () -> x.next(true) + " " + x.moves() + " " + x.now());
    }

    private void moreWithinNext() {
        Numeraire x = new Numeraire();
        int unit = x.one(0);
        int may = x.timed('a', unit, 8);
        int past = x.timed('a', unit, 0);
        int two = x.timed('w', x.both('b', may, may), 1);
        x.acquire(two, 0, 1);
        Told.crowd(x, may, 39);
        x.acquire(past, 0, 1);
        t.due("41 by a w, till an a behind it is taken out", "40 10", () -> x.next(false) + " " + x.now());
        Numeraire y = new Numeraire();
        y.timed('a', y.one(0), 8);
        y.timed('a', 0, 0);
        int both = y.both('e', y.both('b', 1, 2), y.one(-1));
        y.acquire(both, 0, 1);
        Told.crowd(y, 1, 40);
        t.due("41 by an e, till an a that comes by it is taken out", "40 10", () -> y.next(false) + " " + y.now());
        int mays = y.both('e', y.both('b', 1, 1), 0);
        y.use(0);
        y.acquire(mays, 0, 1);
        t.refused("41 by an e that stay", Told.STATE, () -> y.next(false));
        t.due("nothing was chosen", "40 10 1", () -> y.items() + " " + y.now() + " " + y.moves());
        everyOneBecomesEight();
        twoDueAndOnePast();
    }

    private void everyOneBecomesEight() {
        for (char kind : new char[] {'e', 'w', 'a'}) {
            Numeraire x = new Numeraire();
            int unit = x.one(0);
            int small = kind == 'e' ? x.both('e', unit, unit) : x.timed(kind, unit, kind == 'w' ? 1 : 0);
            int eight = small;
            for (int i = 0; i < 3; i++) {
                eight = x.both('b', eight, eight);
            }
            int choice = x.both('e', eight, x.one(-1));
            Told.crowd(x, choice, 40);
            int given = kind == 'a' ? 0 : 320;
            t.due("320 " + kind + " in the middle", "0 " + given + " " + given, () -> x.next(true) + " " + x.moves() + " " + x.amount(0, 0));
        }
        Numeraire y = new Numeraire();
        int stays = y.timed('a', y.one(0), 1);
        for (int i = 0; i < 3; i++) {
            stays = y.both('b', stays, stays);
        }
        int eights = y.both('e', stays, y.one(-1));
        Told.crowd(y, eights, 5);
        t.due("40 that stay", 40, () -> y.next(false));
        Numeraire z = new Numeraire();
        int due = z.timed('a', z.one(0), 1);
        for (int i = 0; i < 3; i++) {
            due = z.both('b', due, due);
        }
        int all = z.both('e', due, z.one(-1));
        Told.crowd(z, all, 40);
        t.refused("320 that stay", Told.STATE, () -> z.next(false));
        t.due("all as it was", "40 0", () -> z.items() + " " + z.now());
    }

    private void twoDueAndOnePast() {
        Numeraire x = new Numeraire();
        int unit = x.one(0);
        int may = x.timed('a', unit, 8);
        int past = x.timed('a', unit, 0);
        int two = x.timed('w', x.both('b', may, may), 1);
        x.acquire(past, 0, 1);
        x.acquire(two, 0, 1);
        Told.crowd(x, may, 39);
        x.acquire(two, 0, 1);
        t.refused("two more and one less", Told.STATE, () -> x.next(false));
        t.due("the past one stands", "40 0 " + past, () -> x.items() + " " + x.now() + " " + x.contractOf(0));
        x.use(2);
        t.due("one more and one less", "40 10", () -> x.next(false) + " " + x.now());
    }

    private void chosenByNext() {
        t.says("First all items of the kind 'e' are chosen, from the first one on, those that come by this too: the first part if its value is not"
            + " less than that of the second one, otherwise the second one.");
        Numeraire x = new Numeraire();
        int unit = x.one(0);
        int nothing = x.one(-1);
        int choice = x.both('e', unit, nothing);
        int in = x.both('e', choice, nothing);
        int inIn = x.both('e', nothing, in);
        int deepest = x.both('e', x.both('e', inIn, choice), nothing);
        x.acquire(choice, 0, 1);
        x.acquire(in, 1, 2);
        x.acquire(inIn, 2, 3);
        x.acquire(deepest, 3, 0);
        t.due("the depth 6", 6, () -> x.depthOf(deepest));
        t.due("all of them", "0 4", () -> x.next(false) + " " + x.moves());
        t.due("by the holders", "0 0 0, 0 0 0, 0 0 0, 0 0 0", () -> Told.amounts(x));
        x.acquire(x.turned('g', choice), 1, 2);
        t.due("by the other one of a g", "0 1 -1", () -> x.next(true) + " " + x.amount(2, 0) + " " + x.amount(1, 0));
        x.acquire(choice, 0, 1);
        x.assign(0, 3);
        t.due("by whom it was handed to", "0 0 1", () -> x.next(true) + " " + x.amount(0, 0) + " " + x.amount(3, 0));
    }

    private void chosenByValue() {
        Numeraire x = new Numeraire();
        x.setUnit(1, 1, 0);
        x.setUnit(2, 0, 0);
        int one = x.one(1);
        int worthless = x.one(2);
        int nothing = x.one(-1);
        int minus = x.turned('g', one);
        checkChosen(x, "the same: the first", x.both('e', worthless, nothing), "1 0 1");
        checkChosen(x, "the same: the first, turned round", x.both('e', nothing, worthless), "0 0 0");
        checkChosen(x, "less: the second", x.both('e', minus, worthless), "1 0 1");
        checkChosen(x, "less by 1, both below 0", x.both('e', x.scaled(minus, 2), minus), "1 -1 0");
        checkChosen(x, "not less, both below 0", x.both('e', minus, x.scaled(minus, 2)), "1 -1 0");
        Numeraire y = new Numeraire();
        y.one(1);
        y.one(-1);
        y.either(8, 0, 1);
        y.timed('w', 2, 8);
        y.acquire(y.both('e', 1, 3), 0, 1);
        y.acquire(y.both('e', 3, 1), 2, 3);
        t.due("more by the least part", "2 3 0 1 1, 3 2 3 1", () -> y.next(true) + " " + Told.items(y));
        Numeraire z = new Numeraire();
        z.acquire(z.scaled(z.both('e', z.turned('g', z.one(0)), z.one(-1)), 0), 0, 1);
        t.due("by the parts, not times the factor 0", "0 0", () -> z.next(true) + " " + z.moves());
    }

    private void checkChosen(Numeraire x, String what, int choice, String want) {
        long first = x.amount(0, 1);
        long second = x.amount(0, 2);
        int moves = x.moves();
        x.acquire(choice, 0, 1);
        x.next(false);
        t.due(what, want, () -> (x.moves() - moves) + " " + (x.amount(0, 1) - first) + " " + (x.amount(0, 2) - second));
    }

    private void chosenInOrder() {
        Numeraire x = new Numeraire();
        int unit = x.one(0);
        int nothing = x.one(-1);
        int may8 = x.timed('a', unit, 8);
        int may7 = x.timed('a', unit, 7);
        int may6 = x.timed('a', unit, 6);
        int outer = x.both('e', x.both('e', may8, nothing), nothing);
        int simple = x.both('e', may7, nothing);
        int brings = x.timed('w', may6, 1);
        x.acquire(brings, 0, 1);
        x.acquire(outer, 0, 1);
        x.acquire(may6, 2, 3);
        x.acquire(simple, 0, 1);
        String want = "4: " + may6 + " 2 3 1, " + may7 + " 0 1 1, " + may8 + " 0 1 1, " + may6 + " 0 1 1";
        t.due("from the first one on, before the day's w", want, () -> x.next(true) + ": " + Told.items(x));
        Numeraire y = new Numeraire();
        int late = y.timed('a', y.one(0), 8);
        int early = y.timed('a', 0, 7);
        int in = y.both('e', late, 0);
        int out = y.both('e', y.both('b', in, in), 0);
        y.acquire(out, 0, 1);
        y.acquire(y.both('e', early, 0), 2, 3);
        String behind = "3: " + early + " 2 3 1, " + late + " 0 1 1, " + late + " 0 1 1";
        t.due("two that come by one are chosen behind", behind, () -> y.next(true) + ": " + Told.items(y));
    }

    private void chosenBeforehand() {
        Numeraire x = new Numeraire();
        int unit = x.one(0);
        int nothing = x.one(-1);
        x.acquire(x.both('e', x.timed('u', unit, 0), nothing), 0, 1);
        t.due("on the day before", "0 1 1", () -> x.next(true) + " " + x.moves() + " " + x.amount(0, 0));
        x.acquire(x.both('e', x.turned('l', unit), nothing), 0, 1);
        t.due("at the level before", "0 2", () -> x.next(true) + " " + x.amount(0, 0));
        x.acquire(x.both('e', x.either(3, unit, nothing), x.scaled(unit, 0)), 2, 3);
        t.due("by the level before", "0 2 0", () -> x.next(true) + " " + x.moves() + " " + x.amount(2, 0));
        Numeraire y = new Numeraire();
        y.setUnit(1, 0, 5);
        y.acquire(y.both('e', y.one(1), y.one(-1)), 0, 1);
        t.due("by what units were worth before, down", "0 1", () -> y.next(false) + " " + y.moves());
        y.acquire(y.both('e', 0, 1), 0, 1);
        t.due("by what units were worth before, up", "0 1", () -> y.next(true) + " " + y.moves());
    }

    private void becomesTold() {
        t.says("Then the day and the level become what is told.");
        for (int d = 0; d < 8; d++) {
            int day = d;
            for (int l = 0; l <= day; l++) {
                int level = l;
                Numeraire x = new Numeraire();
                Told.goTo(x, day, level);
                t.due("up from " + day + " at " + level, 10 * (day + 1) + level + 1, () -> x.next(true) + x.now());
                Numeraire y = new Numeraire();
                Told.goTo(y, day, level);
                t.due("staying from " + day + " at " + level, 10 * (day + 1) + level, () -> y.next(false) + y.now());
            }
        }
    }

    private void doneByNext() {
        t.says("Then, for each item that was there then, in their order: a 'w' whose day it is is done: its holder acquires the part; an 'a' whose day"
            + " is past is taken out.");
        Numeraire x = new Numeraire();
        int unit = x.one(0);
        int may0 = x.timed('a', unit, 0);
        int may1 = x.timed('a', unit, 1);
        int may8 = x.timed('a', unit, 8);
        int w1may8 = x.timed('w', may8, 1);
        int w1may1 = x.timed('w', may1, 1);
        int w1 = x.timed('w', unit, 1);
        int w2 = x.timed('w', unit, 2);
        int[] acquired = {w1may8, may0, w2, w1may1, may1, may0, w1, may8};
        for (int contract : acquired) {
            x.acquire(contract, 0, 1);
        }
        x.assign(6, 3);
        x.assign(0, 2);
        t.due("how many", 5, () -> x.next(true));
        String want = w2 + " 0 1 1, " + may1 + " 0 1 1, " + may8 + " 0 1 1, " + may8 + " 2 1 1, " + may1 + " 0 1 1";
        t.due("in their order", want, () -> Told.items(x));
        t.due("who holds it now acquires", "1 1 -1", () -> x.moves() + " " + x.amount(3, 0) + " " + x.amount(1, 0));
        t.due("another day", "2: " + may8 + " 0 1 1, " + may8 + " 2 1 1", () -> x.next(true) + ": " + Told.items(x));
        t.due("a w has given", "2 1", () -> x.moves() + " " + x.amount(0, 0));
        Told.goTo(x, 8, 8);
        t.due("up to the day 8", 2, x::items);
        Numeraire y = new Numeraire();
        y.timed('w', y.one(1), 1);
        y.timed('a', 0, 0);
        y.acquire(y.both('e', 1, y.one(-1)), 0, 1);
        y.acquire(y.both('e', 2, 3), 0, 1);
        t.due("those that came by a choice, too", "0 1 1", () -> y.next(true) + " " + y.moves() + " " + y.amount(0, 1));
    }

    private void broughtByNext() {
        Numeraire x = new Numeraire();
        int unit = x.one(0);
        int[] parts = {x.turned('l', unit), x.timed('u', unit, 0), x.timed('u', unit, 1), x.timed('a', unit, 0), x.timed('a', unit, 1),
            x.timed('w', unit, 1), x.timed('w', unit, 2), x.either(1, unit, x.one(-1))};
        for (int part : parts) {
            x.acquire(x.timed('w', part, 1), 0, 1);
        }
        t.due("as it is on the new day", 2, () -> x.next(true));
        t.due("what stands", parts[4] + " 0 1 1, " + parts[6] + " 0 1 1", () -> Told.items(x));
        t.due("what was given", "4 4", () -> x.moves() + " " + x.amount(0, 0));
    }

    private void closing() {
        t.says("When a party is closed, for each item of which it is the holder or the other party, in their order: its value now, times the factor,"
            + " divided by 2 to the power of 8 less the day, rounded down, is given in the unit 0 by the other party to the holder; an 'a' can be used"
            + " now; the item is taken out.");
        Numeraire x = new Numeraire();
        x.setUnit(1, 6, 2);
        int unit = x.one(1);
        int later = x.timed('w', unit, 8);
        int may = x.timed('a', unit, 0);
        int choice = x.both('e', x.one(-1), unit);
        x.acquire(x.scaled(later, 9), 0, 1);
        x.acquire(later, 2, 3);
        x.acquire(may, 1, 0);
        x.acquire(choice, 3, 2);
        x.acquire(x.scaled(choice, 0), 3, 0);
        t.due("how many", 3, () -> x.close(0));
        t.due("the others stay in their order", later + " 2 3 1, " + choice + " 3 2 1", () -> Told.items(x));
        t.due("what was given", "48 0 0, -48 0 0, 0 0 0, 0 0 0", () -> Told.amounts(x));
        t.due("each is a move", 3, x::moves);
        t.due("none of the party 1", "0 3", () -> x.close(1) + " " + x.moves());
        x.next(true);
        x.setUnit(1, 10, 9);
        x.assign(0, 1);
        t.due("also as the other party, at the values now", "1 48 0 0, -29 0 0, 0 -1 0, -19 1 0", () -> x.close(3) + " " + Told.amounts(x));
        x.acquire(choice, 3, 2);
        t.due("an e at what is worth most", "1 48 0 0, -29 0 0, -19 -1 0, 0 1 0", () -> x.close(2) + " " + Told.amounts(x));
        for (int party : Told.outside(0, 3)) {
            t.refused("close(" + party + ")", Told.INDEX, () -> x.close(party));
        }
        Numeraire y = new Numeraire();
        for (int party = 0; party <= 3; party++) {
            int each = party;
            t.due("nothing to close for " + party, "0 0", () -> y.close(each) + " " + y.moves());
        }
    }

    private void closingRoundedDown() {
        Numeraire x = new Numeraire();
        int unit = x.one(0);
        int nothing = x.one(-1);
        int least = x.timed('w', x.either(8, unit, nothing), 8);
        int most = x.timed('w', x.either(1, unit, nothing), 8);
        int whole = x.timed('w', unit, 8);
        checkClosed(x, "1 of 256", least, 0);
        checkClosed(x, "-1 of 256", x.turned('g', least), 0);
        checkClosed(x, "-1 of 256, as its holder", x.timed('w', x.turned('g', x.either(8, unit, nothing)), 8), -1);
        checkClosed(x, "255 of 256", most, 0);
        checkClosed(x, "510 of 256", x.scaled(most, 2), 1);
        checkClosed(x, "256 of 256", whole, 1);
        checkClosed(x, "-256 of 256", x.timed('w', x.turned('g', unit), 8), -1);
        checkClosed(x, "-255 of 256", x.timed('w', x.turned('g', x.either(1, unit, nothing)), 8), -1);
        checkClosed(x, "0 of 256", x.timed('w', nothing, 8), 0);
        Numeraire y = new Numeraire();
        int owed = y.timed('w', y.turned('g', y.either(8, y.one(0), y.one(-1))), 8);
        Told.goTo(y, 7, 7);
        checkClosed(y, "-1 of 2", owed, -1);
        checkClosed(y, "-3 of 2", y.scaled(owed, 3), -2);
        checkClosed(y, "-4 of 2", y.scaled(owed, 4), -2);
        checkClosed(y, "half of what the other holds", y.turned('g', owed), 1);
        int may = y.timed('a', y.scaled(y.one(0), 7), 8);
        Told.goTo(y, 8, 8);
        checkClosed(y, "on the day 8, all", may, 7);
    }

    private void checkClosed(Numeraire x, String what, int contract, long want) {
        long before = x.amount(0, 0);
        int moves = x.moves();
        x.acquire(contract, 0, 1);
        t.due(what, "1 " + want + " 1", () -> x.close(0) + " " + (x.amount(0, 0) - before) + " " + (x.moves() - moves));
    }

    private void closingWhatStands() {
        Numeraire x = new Numeraire();
        int unit = x.one(0);
        int half = x.timed('w', x.either(1, unit, x.one(-1)), 1);
        x.acquire(half, 0, 1);
        x.acquire(half, 1, 0);
        x.acquire(half, 0, 2);
        t.due("each is rounded by itself", "3 0 0 0 0", () -> x.close(0) + " " + x.amount(0, 0) + " " + x.amount(1, 0) + " " + x.amount(2, 0) + " " + x.amount(3, 0));
        int may = x.timed('a', x.scaled(unit, 5), 2);
        int owes = x.timed('a', x.turned('g', unit), 2);
        int bad = x.both('e', x.turned('g', unit), x.scaled(x.turned('g', unit), 4));
        x.next(false);
        x.next(false);
        x.acquire(may, 2, 3);
        x.acquire(owes, 2, 3);
        x.acquire(bad, 2, 3);
        t.due("an a on its last day, one that is not used, and an e", "3 4", () -> x.close(3) + " " + x.amount(2, 0));
        Told.crowd(x, may, 40);
        t.due("40 of them", "40 200 0", () -> x.close(1) + " " + x.amount(0, 0) + " " + x.items());
    }

    private void exceptions() {
        t.says("A method that throws an exception changes nothing.");
        for (int part = 0; part < Story.PARTS; part++) {
            Numeraire x = new Numeraire();
            Story.crowded(x);
            Numeraire y = new Numeraire();
            Story.crowded(y);
            t.refused("an acquire that gives before it is refused", Told.STATE, () -> x.acquire(Story.PAYS_AND_STANDS, 0, 1));
            t.refused("a day that is refused", Told.STATE, () -> x.next(true));
            int each = part;
            t.due("all as it was, part " + part, Story.look(y, part), () -> Story.look(x, each));
        }
        t.says("If several exceptions apply, the one that is documented first is thrown.");
        Numeraire x = new Numeraire();
        Story.crowded(x);
        t.refused("a kind and a part that are none", Told.ILLEGAL, () -> x.turned('b', 24));
        t.refused("a part and a number that are none", Told.INDEX, () -> x.scaled(24, 10));
        t.refused("a 25th, too deep", Told.UNSUPPORTED, () -> x.turned('g', Story.DEEPEST));
    }

    private void pastA() {
        t.says("An 'a' whose day is past has the value 0.");
        for (int n = 0; n <= 8; n++) {
            Numeraire x = new Numeraire();
            int may = x.timed('a', x.scaled(x.one(0), 3), n);
            for (int day = 0; day <= 8; day++) {
                t.value("to " + n, x, may, day, day / 2, day > n ? 0 : 3L << (8 - day));
            }
            Told.goTo(x, 8, 1);
            t.due("price", n == 8 ? 3.0 : 0.0, () -> x.price(may));
        }
    }

    private void levelOfItsOwnDay() {
        t.says("'l' multiplies by the level of the day on which it is acquired itself, also if what it brings is done later.");
        Numeraire x = new Numeraire();
        int unit = x.one(0);
        int outside = x.turned('l', x.timed('w', unit, 6));
        int inside = x.timed('w', x.turned('l', unit), 6);
        int both = x.turned('l', inside);
        int chosen = x.turned('l', x.both('e', unit, unit));
        int used = x.turned('l', x.timed('a', unit, 8));
        Told.goTo(x, 3, 2);
        x.acquire(outside, 0, 1);
        x.acquire(inside, 1, 2);
        x.acquire(both, 2, 3);
        x.acquire(used, 3, 0);
        t.due("the factors", "2 1 2 2", () -> x.factorOf(0) + " " + x.factorOf(1) + " " + x.factorOf(2) + " " + x.factorOf(3));
        Told.goTo(x, 5, 4);
        x.next(true);
        t.due("done at the level 5", "2 0 0, 3 0 0, 5 0 0, -10 0 0", () -> Told.amounts(x));
        t.due("used at the level 5", "0 -8 0", () -> x.use(0) + " " + x.amount(3, 0) + " " + x.amount(0, 0));
        x.acquire(chosen, 0, 1);
        t.due("chosen at a next level", "0 5", () -> x.next(true) + " " + x.amount(0, 0));
        Numeraire y = new Numeraire();
        int later = y.turned('l', y.timed('w', y.one(0), 6));
        int known = y.timed('w', y.turned('l', 0), 6);
        t.value("l of w at the level 0", y, later, 0, 0, 0);
        t.value("l of w at the level 2", y, later, 3, 2, 64);
        t.value("w of l at the level 0, by its mean", y, known, 0, 0, 768);
    }

    private void factorNought() {
        t.says("Items and moves come of the factor 0, too.");
        Numeraire x = new Numeraire();
        int unit = x.one(1);
        int choice = x.both('e', unit, unit);
        int later = x.timed('w', unit, 1);
        int may = x.timed('a', unit, 8);
        int all = x.both('b', later, x.both('b', choice, may));
        x.acquire(x.scaled(all, 0), 0, 1);
        t.due("items", later + " 0 1 0, " + choice + " 0 1 0, " + may + " 0 1 0", () -> Told.items(x));
        x.acquire(x.turned('l', all), 2, 3);
        t.due("items by the level 0", "6 0", () -> x.items() + " " + x.factorOf(5));
        t.due("moves by next", "2 4", () -> x.next(true) + " " + x.moves());
        t.due("a move by use", "1 5", () -> x.use(0) + " " + x.moves());
        t.due("a move by close", "1 6", () -> x.close(2) + " " + x.moves());
        x.acquire(x.scaled(choice, 0), 0, 1);
        t.due("a move by choose", "0 7", () -> x.choose(0, true) + " " + x.moves());
        t.due("no amounts", "0 0 0, 0 0 0, 0 0 0, 0 0 0", () -> Told.amounts(x));
        Told.crowd(x, x.scaled(may, 0), 40);
        t.refused("a 41st of the factor 0", Told.STATE, () -> x.acquire(x.scaled(choice, 0), 0, 1));
    }

    private void newChoices() {
        t.says("An 'e' that comes when a new day begins stays until it is chosen, or the next day comes.");
        Numeraire x = new Numeraire();
        int unit = x.one(0);
        int choice = x.both('e', unit, x.one(-1));
        x.acquire(x.timed('w', choice, 1), 0, 1);
        x.acquire(x.both('e', x.timed('w', choice, 1), unit), 2, 3);
        x.acquire(x.timed('w', choice, 2), 1, 2);
        t.due("two come", "3 0", () -> x.next(true) + " " + x.moves());
        t.due("behind what stood", "wee", () -> Told.kinds(x));
        t.due("one is chosen", "2 0", () -> x.choose(1, false) + " " + x.moves());
        t.due("the other one is by the next day, and one comes", "1 1 1", () -> x.next(true) + " " + x.moves() + " " + x.amount(2, 0));
        t.due("it is chosen by a day more", "0 2 1", () -> x.next(true) + " " + x.moves() + " " + x.amount(1, 0));
        Numeraire y = new Numeraire();
        int last = y.timed('w', y.both('e', y.one(0), y.one(-1)), 8);
        y.acquire(last, 0, 1);
        Told.goTo(y, 8, 3);
        t.due("on the day 8 it stays", "1 e", () -> y.items() + " " + Told.kinds(y));
        t.refused("no day more", Told.UNSUPPORTED, () -> y.next(true));
        t.due("and is chosen", "0 1", () -> y.choose(0, true) + " " + y.amount(0, 0));
    }

    private void atOnce() {
        t.says("A 'w' that is acquired on its day, or behind it, brings its part at once.");
        Numeraire x = new Numeraire();
        int unit = x.one(0);
        int w0 = x.timed('w', unit, 0);
        int w1 = x.timed('w', x.turned('l', unit), 1);
        int w1may = x.timed('w', x.timed('a', unit, 1), 1);
        int may = x.timed('a', w1, 8);
        int choice = x.both('e', w1, unit);
        t.due("to 0 on the day 0", "0 1", () -> x.acquire(w0, 0, 1) + " " + x.moves());
        x.next(true);
        t.due("to 1 on the day 1", "0 2 2", () -> x.acquire(w1, 0, 1) + " " + x.moves() + " " + x.amount(0, 0));
        t.due("an item at once", "1 " + (w1may - 1), () -> x.acquire(w1may, 0, 1) + " " + x.contractOf(0));
        x.next(true);
        t.due("to 1 on the day 2", "0 3 4", () -> x.acquire(w1, 0, 1) + " " + x.moves() + " " + x.amount(0, 0));
        t.due("of a part whose day is past", "0 3", () -> x.acquire(w1may, 0, 1) + " " + x.moves());
        x.acquire(may, 0, 1);
        t.due("by use", "0 6", () -> x.use(0) + " " + x.amount(0, 0));
        x.acquire(choice, 0, 1);
        t.due("by choose", "0 8", () -> x.choose(0, true) + " " + x.amount(0, 0));
        x.acquire(choice, 0, 1);
        t.due("by next", "0 10", () -> x.next(false) + " " + x.amount(0, 0));
    }

    private void neverTheSame() {
        t.says("The holder and the other party of an item are never the same.");
        Numeraire x = new Numeraire();
        int may = x.timed('a', x.one(0), 8);
        int given = x.turned('g', may);
        for (int p = 0; p <= 3; p++) {
            int party = p;
            t.refused("acquired by " + party + " from itself", Told.ILLEGAL, () -> x.acquire(may, party, party));
            t.refused("turned round by " + party, Told.ILLEGAL, () -> x.acquire(given, party, party));
        }
        x.acquire(may, 0, 1);
        x.acquire(given, 0, 1);
        t.refused("handed to the other one", Told.ILLEGAL, () -> x.assign(0, 1));
        t.refused("turned round, handed to the other one", Told.ILLEGAL, () -> x.assign(1, 0));
        t.due("both stay", may + " 0 1 1, " + may + " 1 0 1", () -> Told.items(x));
        t.due("handed to its holder", "0 " + may + " 0 1 1", () -> x.assign(0, 0) + " " + Told.item(x, 0));
        t.due("handed to a third one", "0 " + may + " 2 1 1", () -> x.assign(0, 2) + " " + Told.item(x, 0));
        t.refused("still not to the other one", Told.ILLEGAL, () -> x.assign(0, 1));
        t.due("and back", "2 " + may + " 0 1 1", () -> x.assign(0, 0) + " " + Told.item(x, 0));
        for (int party : Told.outside(0, 3)) {
            t.refused("handed to " + party, Told.ILLEGAL, () -> x.assign(0, party));
        }
    }
}
