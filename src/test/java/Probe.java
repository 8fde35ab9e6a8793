/** All that an object tells, as one text, so that two objects can be compared by it. */
final class Probe {
    private static final int[] LEVELS = {4, 3, 4};

    private Probe() {
    }

    /** The answers of all calls that change nothing, for the rows 0 to the one behind the last added. */
    static String answers(RateFitter x, int added) {
        StringBuilder text = new StringBuilder();
        text.append("rows ").append(x.rows()).append(" base ").append(x.base()).append(" lost ").append(x.lost());
        for (int trait = 0; trait < LEVELS.length; trait++) {
            text.append(" worst ").append(x.worst(trait));
            for (int level = 0; level < LEVELS[trait]; level++) {
                text.append(" level ").append(x.factor(trait, level));
                text.append(' ').append(x.toldSum(trait, level)).append(' ').append(x.fittedSum(trait, level));
            }
        }
        for (int number = 0; number <= added; number++) {
            int row = number;
            text.append(" row ").append(Check.outcome(() -> x.fitted(row)));
            text.append(' ').append(Check.outcome(() -> x.premium(row)));
            text.append(' ').append(Check.outcome(() -> x.capped(row)));
            text.append(" ranked ").append(Check.outcome(() -> x.rankedAt(row)));
        }
        return text.toString();
    }

    static String everything(RateFitter x, int added) {
        return answers(x, added) + settings(x, added);
    }

    /** What no answer tells: it is found by calls that change the object. */
    static String settings(RateFitter x, int added) {
        StringBuilder text = new StringBuilder(" next ");
        text.append(Check.outcome(() -> x.add(3, 2, 3, 1000, 1000, 1000000)));
        text.append(" settled ").append(x.settle());
        for (int trait = 0; trait < LEVELS.length; trait++) {
            for (int level = 0; level < LEVELS[trait]; level++) {
                text.append(' ').append(x.factor(trait, level));
            }
        }
        for (int number = 0; number <= added; number++) {
            int row = number;
            text.append(" old ").append(Check.outcome(() -> x.setOld(row, 100)));
            text.append(' ').append(Check.outcome(() -> x.capped(row)));
        }
        text.append(" credibility ").append(x.setRules(0, -1)).append(" spread ").append(x.spread());
        return text.toString();
    }
}
