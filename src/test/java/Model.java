import java.math.BigInteger;
import java.util.ArrayList;
import java.util.List;

/**
 * The document once more, word by word, slow and with unbounded numbers: every answer is made
 * anew from the rows, the factors and the settings. It answers valid calls alone.
 */
final class Model {
    private static final int[] LEVELS = {4, 3, 4};
    private static final BigInteger UNIT = big(10000);

    private static final class Row {
        int number;
        int[] levels;
        int exposure;
        int claims;
        int loss;
        int old = -1;
    }

    private final List<Row> rows = new ArrayList<>();
    private final int[][] factors = {{10000, 10000, 10000, 10000}, {10000, 10000, 10000}, {10000, 10000, 10000, 10000}};
    private int added = 0;
    private int credibility = 0;
    private int cap = -1;
    private int spread = 10000;

    private static BigInteger big(long value) {
        return BigInteger.valueOf(value);
    }

    int addedRows() {
        return added;
    }

    boolean hasRow(int number) {
        return rowOf(number) != null;
    }

    private Row rowOf(int number) {
        for (Row row : rows) {
            if (row.number == number) {
                return row;
            }
        }
        return null;
    }

    int add(int first, int second, int third, int exposure, int claims, int loss) {
        Row row = new Row();
        row.number = added;
        row.levels = new int[] {first, second, third};
        row.exposure = exposure;
        row.claims = claims;
        row.loss = loss;
        rows.add(row);
        return added++;
    }

    int withdraw(int number) {
        rows.remove(rowOf(number));
        return rows.size();
    }

    int setOld(int number, int premium) {
        Row row = rowOf(number);
        int before = row.old;
        row.old = premium;
        return before;
    }

    int setRules(int credibility, int cap) {
        int before = this.credibility;
        this.credibility = credibility;
        this.cap = cap;
        return before;
    }

    int setFactor(int trait, int level, int factor) {
        int before = factors[trait][level];
        factors[trait][level] = factor;
        return before;
    }

    int pass(int trait) {
        int[] found = new int[LEVELS[trait]];
        for (int level = 0; level < found.length; level++) {
            found[level] = found(trait, level);
        }
        int changed = differences(found, factors[trait]);
        factors[trait] = found;
        return changed;
    }

    private int found(int trait, int level) {
        BigInteger factor = big(factors[trait][level]);
        long claims = 0;
        for (Row row : rowsAt(trait, level)) {
            claims += row.claims;
        }
        if (big(fittedSum(trait, level)).signum() == 0 || claims == 0) {
            return factor.intValueExact();
        }
        BigInteger target = factor.multiply(big(toldSum(trait, level))).divide(big(fittedSum(trait, level)));
        BigInteger step = target.subtract(factor).multiply(big(claims)).divide(big(claims + credibility));
        return factor.add(step).max(big(100)).min(big(100000)).intValueExact();
    }

    private static int differences(int[] some, int[] others) {
        int count = 0;
        for (int i = 0; i < some.length; i++) {
            count += some[i] == others[i] ? 0 : 1;
        }
        return count;
    }

    int settle() {
        int rounds = 0;
        int changed;
        do {
            changed = pass(0) + pass(1) + pass(2);
            rounds++;
        } while (changed > 0 && rounds < 60);
        return rounds;
    }

    int smooth(int trait) {
        int[] before = factors[trait].clone();
        List<List<Integer>> groups = new ArrayList<>();
        for (int level = 0; level < LEVELS[trait]; level++) {
            groups.add(new ArrayList<>(List.of(level)));
        }
        int falling = 1;
        while (falling < LEVELS[trait]) {
            if (factors[trait][falling] < factors[trait][falling - 1]) {
                join(trait, groups, falling);
                falling = 1;
            } else {
                falling++;
            }
        }
        return differences(before, factors[trait]);
    }

    private void join(int trait, List<List<Integer>> groups, int falling) {
        List<Integer> upper = groupWith(groups, falling);
        List<Integer> joined = groupWith(groups, falling - 1);
        joined.addAll(upper);
        groups.remove(upper);
        BigInteger sum = BigInteger.ZERO;
        BigInteger weights = BigInteger.ZERO;
        BigInteger plain = BigInteger.ZERO;
        for (int level : joined) {
            BigInteger factor = big(factors[trait][level]);
            plain = plain.add(factor);
            for (Row row : rowsAt(trait, level)) {
                sum = sum.add(factor.multiply(big(row.exposure)));
                weights = weights.add(big(row.exposure));
            }
        }
        BigInteger mean = weights.signum() == 0 ? plain.divide(big(joined.size())) : sum.divide(weights);
        for (int level : joined) {
            factors[trait][level] = mean.intValueExact();
        }
    }

    private static List<Integer> groupWith(List<List<Integer>> groups, int level) {
        for (List<Integer> group : groups) {
            if (group.contains(level)) {
                return group;
            }
        }
        throw new AssertionError("every level is in a group");
    }

    int spread() {
        BigInteger capped = cappedTotal();
        if (capped.signum() != 0) {
            BigInteger ratio = fittedTotal().multiply(UNIT).divide(capped).min(big(1000000));
            spread = big(spread).multiply(ratio).divide(UNIT).max(big(1)).min(big(1000000)).intValueExact();
        }
        return spread;
    }

    int rows() {
        return rows.size();
    }

    long base() {
        long losses = 0;
        long exposures = 0;
        for (Row row : rows) {
            losses += row.loss;
            exposures += row.exposure;
        }
        return rows.isEmpty() ? 0 : big(losses).multiply(UNIT).divide(big(exposures)).longValueExact();
    }

    int factor(int trait, int level) {
        return factors[trait][level];
    }

    long fitted(int number) {
        return fittedOf(rowOf(number)).longValueExact();
    }

    private BigInteger fittedOf(Row row) {
        BigInteger fitted = big(row.exposure).multiply(big(base())).divide(UNIT);
        for (int trait = 0; trait < LEVELS.length; trait++) {
            fitted = fitted.multiply(big(factors[trait][row.levels[trait]])).divide(UNIT);
        }
        return fitted;
    }

    private List<Row> rowsAt(int trait, int level) {
        List<Row> there = new ArrayList<>();
        for (Row row : rows) {
            if (row.levels[trait] == level) {
                there.add(row);
            }
        }
        return there;
    }

    long toldSum(int trait, int level) {
        return rowsAt(trait, level).stream().mapToLong(row -> row.loss).sum();
    }

    long fittedSum(int trait, int level) {
        BigInteger sum = BigInteger.ZERO;
        for (Row row : rowsAt(trait, level)) {
            sum = sum.add(fittedOf(row));
        }
        return sum.longValueExact();
    }

    long worst(int trait) {
        long worst = 0;
        for (int level = 0; level < LEVELS[trait]; level++) {
            worst = Math.max(worst, Math.abs(toldSum(trait, level) - fittedSum(trait, level)));
        }
        return worst;
    }

    long premium(int number) {
        return premiumOf(rowOf(number)).longValueExact();
    }

    private BigInteger premiumOf(Row row) {
        return fittedOf(row).multiply(big(spread)).divide(UNIT);
    }

    long capped(int number) {
        return cappedOf(rowOf(number)).longValueExact();
    }

    private BigInteger cappedOf(Row row) {
        if (cap == -1 || row.old == -1) {
            return premiumOf(row);
        }
        BigInteger least = big(row.old).multiply(big(Math.max(100 - cap, 0))).divide(big(100));
        BigInteger most = big(row.old).multiply(big(100 + cap)).divide(big(100));
        return premiumOf(row).max(least).min(most);
    }

    private BigInteger fittedTotal() {
        BigInteger sum = BigInteger.ZERO;
        for (Row row : rows) {
            sum = sum.add(fittedOf(row));
        }
        return sum;
    }

    private BigInteger cappedTotal() {
        BigInteger sum = BigInteger.ZERO;
        for (Row row : rows) {
            sum = sum.add(cappedOf(row));
        }
        return sum;
    }

    long lost() {
        return fittedTotal().subtract(cappedTotal()).longValueExact();
    }

    int rankedAt(int place) {
        List<Row> order = new ArrayList<>(rows);
        // the sort is stable and the rows stand by their numbers
        order.sort((one, other) -> fraction(other, one).compareTo(fraction(one, other)));
        return order.get(place).number;
    }

    private BigInteger fraction(Row row, Row other) {
        return big(row.loss).multiply(fittedOf(other).add(BigInteger.ONE));
    }
}
