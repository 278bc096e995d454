/** All that can be asked of a ledger, as one text. */
final class Look {
    private Look() {
    }

    static String at(Numeraire x) {
        StringBuilder all = new StringBuilder();
        all.append(x.now()).append(' ').append(x.moves()).append(' ').append(Check.told(x::openShare)).append(' ').append(x.isSound());
        for (int unit = 0; unit < 3; unit++) {
            all.append(" u").append(x.worth(unit, 0, 0)).append(',').append(x.worth(unit, 1, 1));
        }
        for (int party = 0; party < 4; party++) {
            all.append(" p").append(x.wealth(party));
            for (int unit = 0; unit < 3; unit++) {
                all.append(',').append(x.amount(party, unit));
            }
        }
        for (int item = 0; item < x.items(); item++) {
            all.append(" i").append(x.contractOf(item)).append(',').append(x.holderOf(item)).append(',').append(x.otherOf(item)).append(',').append(x.factorOf(item));
        }
        for (int contract = 0; contract < 24; contract++) {
            all.append(" c").append(contractOf(x, contract));
        }
        return all.toString();
    }

    private static String contractOf(Numeraire x, int contract) {
        return Check.told(() -> x.kindOf(contract) + "," + x.depthOf(contract) + "," + x.price(contract) + "," + valuesOf(x, contract));
    }

    private static String valuesOf(Numeraire x, int contract) {
        StringBuilder all = new StringBuilder();
        for (int day = 0; day <= 8; day++) {
            for (int level = 0; level <= day; level++) {
                all.append(x.value(contract, day, level)).append(';');
            }
        }
        return all.toString();
    }
}
