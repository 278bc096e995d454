import java.util.ArrayList;
import java.util.HashMap;
import java.util.List;
import java.util.Map;

/** The document once more, written as differently as it goes: values unscaled and by need, items as objects, whole copies. */
final class Model {
    /** One contract. */
    static final class Deal {
        final char kind;
        final Deal first;
        final Deal second;
        final int number;
        final int index;
        final int depth;

        Deal(char kind, Deal first, Deal second, int number, int index) {
            this.kind = kind;
            this.first = first;
            this.second = second;
            this.number = number;
            this.index = index;
            this.depth = 1 + Math.max(first == null ? 0 : first.depth, second == null ? 0 : second.depth);
        }
    }

    /** One item. */
    static final class Standing {
        final Deal deal;
        final int holder;
        final int other;
        final long factor;

        Standing(Deal deal, int holder, int other, long factor) {
            this.deal = deal;
            this.holder = holder;
            this.other = other;
            this.factor = factor;
        }
    }

    private final List<Deal> deals = new ArrayList<>();
    private final long[] bases = {1, 1, 1};
    private final long[] slopes = {0, 0, 0};
    private final Map<String, Double> known = new HashMap<>();
    private List<Standing> standing = new ArrayList<>();
    private long[][] amounts = new long[4][3];
    private int moves = 0;
    private int day = 0;
    private int level = 0;

    long setUnit(int unit, int base, int slope) {
        ask(unit == 1 || unit == 2);
        ask(Math.abs((long) base) <= 99 && Math.abs((long) slope) <= 9);
        bases[unit] = base;
        slopes[unit] = slope;
        known.clear();
        return worth(unit, day, level);
    }

    long worth(int unit, int d, int l) {
        ask(unit >= 0 && unit <= 2);
        askPlace(d, l);
        return bases[unit] + slopes[unit] * (2 * l - d);
    }

    int one(int unit) {
        ask(unit >= -1 && unit <= 2);
        return unit == -1 ? make('z', null, null, 0) : make('o', null, null, unit);
    }

    int turned(char kind, int contract) {
        ask(kind == 'g' || kind == 'l');
        return make(kind, deal(contract), null, 0);
    }

    int both(char kind, int first, int second) {
        ask(kind == 'b' || kind == 'e');
        return make(kind, deal(first), deal(second), 0);
    }

    int scaled(int contract, int number) {
        Deal part = deal(contract);
        ask(number >= 0 && number <= 9);
        return make('s', part, null, number);
    }

    int either(int number, int first, int second) {
        ask(number >= 0 && number <= 8);
        return make('i', deal(first), deal(second), number);
    }

    int timed(char kind, int contract, int number) {
        ask(kind == 'w' || kind == 'u' || kind == 'a');
        ask(number >= 0 && number <= 8);
        return make(kind, deal(contract), null, number);
    }

    int contracts() {
        return deals.size();
    }

    char kindOf(int contract) {
        return deal(contract).kind;
    }

    int depthOf(int contract) {
        return deal(contract).depth;
    }

    long value(int contract, int d, int l) {
        Deal deal = deal(contract);
        askPlace(d, l);
        return (long) (mean(deal, d, l) * (1 << (8 - d)));
    }

    double price(int contract) {
        return mean(deal(contract), day, level);
    }

    int acquire(int contract, int holder, int other) {
        Deal deal = deal(contract);
        ask(holder >= 0 && holder <= 3 && other >= 0 && other <= 3 && holder != other);
        return whole(() -> bring(deal, holder, other, 1));
    }

    int items() {
        return standing.size();
    }

    int contractOf(int item) {
        return item(item).deal.index;
    }

    int holderOf(int item) {
        return item(item).holder;
    }

    int otherOf(int item) {
        return item(item).other;
    }

    long factorOf(int item) {
        return item(item).factor;
    }

    int choose(int item, boolean isFirst) {
        askKind(item, 'e');
        return whole(() -> {
            Standing done = standing.remove(item);
            bring(isFirst ? done.deal.first : done.deal.second, done.holder, done.other, done.factor);
        });
    }

    int use(int item) {
        askKind(item, 'a');
        return whole(() -> {
            Standing done = standing.remove(item);
            bring(done.deal.first, done.holder, done.other, done.factor);
        });
    }

    int assign(int item, int party) {
        Standing old = item(item);
        ask(party >= 0 && party <= 3 && party != old.other);
        standing.set(item, new Standing(old.deal, party, old.other, old.factor));
        return old.holder;
    }

    int next(boolean isUp) {
        if (day == 8) {
            throw new UnsupportedOperationException();
        }
        return whole(() -> {
            while (chooseFirstOpen()) {
                continue;
            }
            day++;
            level += isUp ? 1 : 0;
            for (Standing each : new ArrayList<>(standing)) {
                if (each.deal.kind == 'w' && each.deal.number == day) {
                    standing.remove(each);
                    bring(each.deal.first, each.holder, each.other, each.factor);
                } else if (each.deal.kind == 'a' && each.deal.number < day) {
                    standing.remove(each);
                }
            }
        });
    }

    int close(int party) {
        askParty(party);
        int taken = 0;
        for (Standing each : new ArrayList<>(standing)) {
            if (each.holder == party || each.other == party) {
                long number = Math.floorDiv(value(each.deal.index, day, level) * each.factor, 1L << (8 - day));
                give(each.other, each.holder, 0, number);
                standing.remove(each);
                taken++;
            }
        }
        return taken;
    }

    long amount(int party, int unit) {
        askParty(party);
        ask(unit >= 0 && unit <= 2);
        return amounts[party][unit];
    }

    long wealth(int party) {
        askParty(party);
        double sum = 0;
        for (int unit = 0; unit < 3; unit++) {
            sum += (double) amounts[party][unit] * worth(unit, day, level);
        }
        for (Standing each : standing) {
            double number = mean(each.deal, day, level) * each.factor;
            sum += each.holder == party ? number : each.other == party ? -number : 0;
        }
        return (long) (sum * (1 << (8 - day)));
    }

    int moves() {
        return moves;
    }

    int now() {
        return 10 * day + level;
    }

    float openShare() {
        if (standing.isEmpty()) {
            throw new ArithmeticException();
        }
        return (float) standing.stream().filter(each -> each.deal.kind == 'a').count() / (float) standing.size();
    }

    private boolean chooseFirstOpen() {
        for (int i = 0; i < standing.size(); i++) {
            Standing each = standing.get(i);
            if (each.deal.kind == 'e') {
                standing.remove(i);
                boolean isFirst = mean(each.deal.first, day, level) >= mean(each.deal.second, day, level);
                bring(isFirst ? each.deal.first : each.deal.second, each.holder, each.other, each.factor);
                return true;
            }
        }
        return false;
    }

    private void bring(Deal deal, int holder, int other, long factor) {
        switch (deal.kind) {
            case 'o' -> give(other, holder, deal.number, factor);
            case 'z' -> { }
            case 'g' -> bring(deal.first, other, holder, factor);
            case 'b' -> {
                bring(deal.first, holder, other, factor);
                bring(deal.second, holder, other, factor);
            }
            case 's' -> bring(deal.first, holder, other, factor * deal.number);
            case 'l' -> bring(deal.first, holder, other, factor * level);
            case 'i' -> bring(level < deal.number ? deal.second : deal.first, holder, other, factor);
            case 'u' -> {
                if (deal.number >= day) {
                    bring(deal.first, holder, other, factor);
                }
            }
            case 'w' -> {
                if (deal.number <= day) {
                    bring(deal.first, holder, other, factor);
                } else {
                    standing.add(new Standing(deal, holder, other, factor));
                }
            }
            case 'a' -> {
                if (deal.number >= day) {
                    standing.add(new Standing(deal, holder, other, factor));
                }
            }
            default -> standing.add(new Standing(deal, holder, other, factor));
        }
    }

    private double mean(Deal deal, int d, int l) {
        String key = deal.index + " " + d + " " + l;
        Double before = known.get(key);
        if (before == null) {
            before = meanAnew(deal, d, l);
            known.put(key, before);
        }
        return before;
    }

    private double meanAnew(Deal deal, int d, int l) {
        switch (deal.kind) {
            case 'o':
                return worth(deal.number, d, l);
            case 'z':
                return 0;
            case 'g':
                return 0 - mean(deal.first, d, l);
            case 'b':
                return mean(deal.first, d, l) + mean(deal.second, d, l);
            case 'e':
                return Math.max(mean(deal.first, d, l), mean(deal.second, d, l));
            case 's':
                return deal.number * mean(deal.first, d, l);
            case 'l':
                return l * mean(deal.first, d, l);
            case 'i':
                return mean(l < deal.number ? deal.second : deal.first, d, l);
            case 'u':
                return d > deal.number ? 0 : mean(deal.first, d, l);
            case 'w':
                return d >= deal.number ? mean(deal.first, d, l) : ahead(deal, d, l);
            default:
                if (d > deal.number) {
                    return 0;
                }
                return Math.max(mean(deal.first, d, l), d == deal.number ? 0 : ahead(deal, d, l));
        }
    }

    private double ahead(Deal deal, int d, int l) {
        return (mean(deal, d + 1, l) + mean(deal, d + 1, l + 1)) / 2;
    }

    private void give(int giver, int taker, int unit, long number) {
        amounts[giver][unit] -= number;
        amounts[taker][unit] += number;
        moves++;
    }

    private int whole(Runnable act) {
        List<Standing> oldStanding = new ArrayList<>(standing);
        long[][] oldAmounts = {amounts[0].clone(), amounts[1].clone(), amounts[2].clone(), amounts[3].clone()};
        int oldMoves = moves;
        int oldDay = day;
        int oldLevel = level;
        act.run();
        if (standing.size() > 40) {
            standing = oldStanding;
            amounts = oldAmounts;
            moves = oldMoves;
            day = oldDay;
            level = oldLevel;
            throw new IllegalStateException();
        }
        return standing.size();
    }

    private int make(char kind, Deal first, Deal second, int number) {
        Deal made = new Deal(kind, first, second, number, deals.size());
        if (made.depth > 6) {
            throw new UnsupportedOperationException();
        }
        if (deals.size() == 24) {
            throw new IllegalStateException();
        }
        deals.add(made);
        return made.index;
    }

    private Deal deal(int contract) {
        if (contract < 0 || contract >= deals.size()) {
            throw new IndexOutOfBoundsException();
        }
        return deals.get(contract);
    }

    private Standing item(int item) {
        if (item < 0 || item >= standing.size()) {
            throw new IndexOutOfBoundsException();
        }
        return standing.get(item);
    }

    private void askKind(int item, char kind) {
        if (item(item).deal.kind != kind) {
            throw new UnsupportedOperationException();
        }
    }

    private static void ask(boolean isRight) {
        if (!isRight) {
            throw new IllegalArgumentException();
        }
    }

    private static void askPlace(int d, int l) {
        ask(d >= 0 && d <= 8 && l >= 0 && l <= d);
    }

    private static void askParty(int party) {
        if (party < 0 || party > 3) {
            throw new IndexOutOfBoundsException();
        }
    }
}
