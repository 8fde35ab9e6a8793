import java.util.Arrays;

/**
 * Each call that the document refuses, in objects that are new, partly filled, full and emptied:
 * it throws what the document says, and nothing has changed behind it.
 */
public final class RefusedCallsTest {
    private static final String ROW = "IndexOutOfBoundsException";
    private static final String ARGUMENT = "IllegalArgumentException";
    private static final String STATE = "IllegalStateException";

    private static final int LEAST = Integer.MIN_VALUE;
    private static final int MOST = Integer.MAX_VALUE;
    private static final int[] NO_TRAITS = {-1, 3, LEAST, MOST};
    // the levels of a trait that are not there, trait by trait
    private static final int[][] NO_LEVELS = {{-1, 4, LEAST, MOST}, {-1, 3, LEAST, MOST}, {-1, 4, LEAST, MOST}};
    private static final int[] NO_PREMIUMS = {-2, 10000001, LEAST, MOST};
    private static final int[] NO_CREDIBILITIES = {-1, 1001, LEAST, MOST};
    private static final int[] NO_CAPS = {-2, 1001, LEAST, MOST};
    private static final int[] NO_FACTORS = {99, 100001, -10000, 0, LEAST, MOST};
    private static final int[] LEAST_ROW = {0, 0, 0, 1, 0, 0};
    private static final int[] MOST_ROW = {3, 2, 3, 1000, 1000, 1000000};

    private interface Use {
        long of(RateFitter x);
    }

    /** What was called ahead of the refused call. */
    private enum Ahead {
        NOTHING(0), SOME_ROWS(4, 1), FORTY_ROWS(40), FORTY_ROWS_LESS_TWO(40, 0, 39), ALL_WITHDRAWN(3, 0, 1, 2);

        final int added;
        final int[] withdrawn;
        final String untouched;

        Ahead(int added, int... withdrawn) {
            this.added = added;
            this.withdrawn = withdrawn;
            untouched = Probe.everything(made(), added);
        }

        // every setting is another one than that of a new object
        RateFitter made() {
            RateFitter x = new RateFitter();
            if (added == 0) {
                return x;
            }
            for (int row = 0; row < added; row++) {
                x.add(row % 4, row % 3, (row / 2) % 4, 10 + row, 1 + row % 5, 50000 + 1000 * (row % 7));
            }
            x.setFactor(0, 1, 8000);
            x.setFactor(1, 2, 12345);
            x.setFactor(2, 0, 9000);
            x.setOld(0, 40000);
            x.setOld(added - 1, 70000);
            x.setRules(7, 25);
            x.spread();
            for (int row : withdrawn) {
                x.withdraw(row);
            }
            return x;
        }

        int[] rowsThatAreNot() {
            int[] rows = Arrays.copyOf(withdrawn, withdrawn.length + 5);
            int next = withdrawn.length;
            for (int row : new int[] {-1, added, 40, LEAST, MOST}) {
                rows[next++] = row;
            }
            return rows;
        }

        int aLiveRow() {
            return this == FORTY_ROWS_LESS_TWO ? 1 : 0;
        }

        boolean hasLiveRows() {
            return added > withdrawn.length;
        }
    }

    public static void main(String[] args) {
        for (Ahead ahead : Ahead.values()) {
            addRefusesEachArgument(ahead);
            addRefusesTheRow41(ahead);
            rowCallsRefuseRowsThatAreNot(ahead);
            setOldRefusesPremiums(ahead);
            setRulesRefuses(ahead);
            setFactorRefuses(ahead);
            traitCallsRefuseTraitsThatAreNot(ahead);
            levelCallsRefuseLevelsThatAreNot(ahead);
            rankedAtRefusesPlacesThatAreNot(ahead);
            answersStayTheSame(ahead);
            answersChangeNoSettings(ahead);
        }
        Check.end();
    }

    private static void refused(Ahead ahead, String exception, String call, Use use) {
        RateFitter x = ahead.made();
        Check.same(ahead + ", " + call, Check.outcome(() -> use.of(x)), exception);
        Check.same(ahead + ", " + call + " changes nothing", Probe.everything(x, ahead.added), ahead.untouched);
    }

    // ---- promise 2

    private static long added(RateFitter x, int[] a) {
        return x.add(a[0], a[1], a[2], a[3], a[4], a[5]);
    }

    private static void addRefusesEachArgument(Ahead ahead) {
        for (int place = 0; place < LEAST_ROW.length; place++) {
            for (int wrong : new int[] {LEAST_ROW[place] - 1, MOST_ROW[place] + 1, LEAST, MOST}) {
                addRefuses(ahead, LEAST_ROW, place, wrong);
                addRefuses(ahead, MOST_ROW, place, wrong);
            }
        }
    }

    // in an object with forty rows both exceptions apply, and that of the argument is named first
    private static void addRefuses(Ahead ahead, int[] row, int place, int wrong) {
        int[] arguments = row.clone();
        arguments[place] = wrong;
        refused(ahead, ARGUMENT, "add, argument " + place + " is " + wrong, x -> added(x, arguments));
    }

    private static void addRefusesTheRow41(Ahead ahead) {
        if (ahead.added == 40) {
            refused(ahead, STATE, "add, the least row", x -> added(x, LEAST_ROW));
            refused(ahead, STATE, "add, the greatest row", x -> added(x, MOST_ROW));
        } else {
            Check.equal(ahead + ", add, the least row", added(ahead.made(), LEAST_ROW), ahead.added);
            Check.equal(ahead + ", add, the greatest row", added(ahead.made(), MOST_ROW), ahead.added);
        }
    }

    // ---- promises 3, 4, 14, 18, 19

    private static void rowCallsRefuseRowsThatAreNot(Ahead ahead) {
        for (int row : ahead.rowsThatAreNot()) {
            refused(ahead, ROW, "withdraw " + row, x -> x.withdraw(row));
            refused(ahead, ROW, "fitted " + row, x -> x.fitted(row));
            refused(ahead, ROW, "premium " + row, x -> x.premium(row));
            refused(ahead, ROW, "capped " + row, x -> x.capped(row));
            for (int premium : new int[] {-1, 0, 10000000}) {
                refused(ahead, ROW, "setOld " + row + " " + premium, x -> x.setOld(row, premium));
            }
            // both exceptions apply, and that of the row is named first
            for (int premium : NO_PREMIUMS) {
                refused(ahead, ROW, "setOld " + row + " " + premium, x -> x.setOld(row, premium));
            }
        }
    }

    private static void setOldRefusesPremiums(Ahead ahead) {
        if (!ahead.hasLiveRows()) {
            return;
        }
        int row = ahead.aLiveRow();
        for (int premium : NO_PREMIUMS) {
            refused(ahead, ARGUMENT, "setOld " + row + " " + premium, x -> x.setOld(row, premium));
        }
    }

    // ---- promises 5 and 6

    private static void setRulesRefuses(Ahead ahead) {
        for (int credibility : NO_CREDIBILITIES) {
            for (int cap : new int[] {-1, 0, 1000, -2, 1001}) {
                refused(ahead, ARGUMENT, "setRules " + credibility + " " + cap, x -> x.setRules(credibility, cap));
            }
        }
        for (int cap : NO_CAPS) {
            for (int credibility : new int[] {0, 1000}) {
                refused(ahead, ARGUMENT, "setRules " + credibility + " " + cap, x -> x.setRules(credibility, cap));
            }
        }
    }

    private static void setFactorRefuses(Ahead ahead) {
        for (int trait : NO_TRAITS) {
            setFactorRefusesLevel(ahead, trait, 0);
        }
        for (int trait = 0; trait < NO_LEVELS.length; trait++) {
            for (int level : NO_LEVELS[trait]) {
                setFactorRefusesLevel(ahead, trait, level);
            }
            for (int factor : NO_FACTORS) {
                setFactorRefusesFactor(ahead, trait, 0, factor);
                setFactorRefusesFactor(ahead, trait, NO_LEVELS[trait][1] - 1, factor);
            }
        }
    }

    // with a wrong factor both exceptions apply, and that of the level is named first
    private static void setFactorRefusesLevel(Ahead ahead, int trait, int level) {
        for (int factor : new int[] {100, 100000, 99, 100001}) {
            String call = "setFactor " + trait + " " + level + " " + factor;
            refused(ahead, ROW, call, x -> x.setFactor(trait, level, factor));
        }
    }

    private static void setFactorRefusesFactor(Ahead ahead, int trait, int level, int factor) {
        String call = "setFactor " + trait + " " + level + " " + factor;
        refused(ahead, ARGUMENT, call, x -> x.setFactor(trait, level, factor));
    }

    // ---- promises 7, 9, 13, 15, 16, 17

    private static void traitCallsRefuseTraitsThatAreNot(Ahead ahead) {
        for (int trait : NO_TRAITS) {
            refused(ahead, ROW, "pass " + trait, x -> x.pass(trait));
            refused(ahead, ROW, "smooth " + trait, x -> x.smooth(trait));
            refused(ahead, ROW, "worst " + trait, x -> x.worst(trait));
        }
    }

    private static void levelCallsRefuseLevelsThatAreNot(Ahead ahead) {
        for (int trait : NO_TRAITS) {
            levelCallsRefuse(ahead, trait, 0);
            levelCallsRefuse(ahead, trait, trait);
        }
        for (int trait = 0; trait < NO_LEVELS.length; trait++) {
            for (int level : NO_LEVELS[trait]) {
                levelCallsRefuse(ahead, trait, level);
            }
        }
    }

    private static void levelCallsRefuse(Ahead ahead, int trait, int level) {
        String place = " " + trait + " " + level;
        refused(ahead, ROW, "factor" + place, x -> x.factor(trait, level));
        refused(ahead, ROW, "toldSum" + place, x -> x.toldSum(trait, level));
        refused(ahead, ROW, "fittedSum" + place, x -> x.fittedSum(trait, level));
    }

    // ---- promise 21

    private static void rankedAtRefusesPlacesThatAreNot(Ahead ahead) {
        int rows = ahead.added - ahead.withdrawn.length;
        for (int place : new int[] {-1, rows, rows + 1, 40, LEAST, MOST}) {
            refused(ahead, ROW, "rankedAt " + place, x -> x.rankedAt(place));
        }
    }

    // ---- "nothing from here on changes anything"; two objects, as one is used for 512 calls at most

    private static void answersStayTheSame(Ahead ahead) {
        RateFitter x = ahead.made();
        String first = Probe.answers(x, ahead.added);
        Check.same(ahead + ", the same answers again", Probe.answers(x, ahead.added), first);
    }

    private static void answersChangeNoSettings(Ahead ahead) {
        RateFitter x = ahead.made();
        Probe.answers(x, ahead.added);
        Check.same(ahead + ", answers change no settings",
                Probe.settings(x, ahead.added), Probe.settings(ahead.made(), ahead.added));
    }
}
