import java.util.Arrays;

/** A maker of rates for motor cover; README.md says how to use it. */
public final class RateFitter {
    private static final int TRAITS = 3;
    private static final int[] LEVELS = {4, 3, 4};
    private static final int MOST_LEVELS = 4;
    private static final int MOST_ROWS = 40;
    private static final int MOST_EXPOSURE = 1000;
    private static final int MOST_CLAIMS = 1000;
    private static final int MOST_LOSS = 1000000;
    private static final int MOST_OLD_PREMIUM = 10000000;
    private static final int MOST_CREDIBILITY = 1000;
    private static final int MOST_CAP = 1000;
    private static final int UNIT = 10000;
    private static final int LEAST_FACTOR = 100;
    private static final int MOST_FACTOR = 100000;
    private static final int MOST_ROUNDS = 60;
    private static final int LEAST_SPREAD = 1;
    private static final int MOST_SPREAD = 1000000;
    private static final int MOST_RATIO = 1000000;
    private static final int PERCENT = 100;
    private static final int NONE = -1;

    private final int[][] factors = new int[TRAITS][MOST_LEVELS];

    private final int[][] rowLevels = new int[TRAITS][MOST_ROWS];
    // long, so that one function sums any of them, and no product of them wraps
    private final long[] exposures = new long[MOST_ROWS];
    private final long[] claims = new long[MOST_ROWS];
    private final long[] losses = new long[MOST_ROWS];
    private final int[] oldPremiums = new int[MOST_ROWS];
    private final boolean[] live = new boolean[MOST_ROWS];
    private int addedRows = 0;
    private int liveRows = 0;

    private int credibility = 0;
    private int cap = NONE;
    private int spreadNow = UNIT;

    // what follows from the rows and factors; refit() makes it anew when they change
    private long baseNow = 0;
    private final long[] fittedLosses = new long[MOST_ROWS];

    // room of one smoothing, kept so that no call makes arrays
    private final int[] groupStarts = new int[MOST_LEVELS];
    private final int[] factorsBefore = new int[MOST_LEVELS];

    public RateFitter() {
        for (int trait = 0; trait < TRAITS; trait++) {
            Arrays.fill(factors[trait], UNIT);
        }
    }

    // ---- rows and settings

    public int add(int first, int second, int third, int exposure, int claims, int loss)
            throws IllegalArgumentException, IllegalStateException {
        if (!hasLevel(0, first) || !hasLevel(1, second) || !hasLevel(2, third)) {
            throw new IllegalArgumentException("no such level");
        }
        if (!isWithin(exposure, 1, MOST_EXPOSURE) || !isWithin(claims, 0, MOST_CLAIMS)
                || !isWithin(loss, 0, MOST_LOSS)) {
            throw new IllegalArgumentException("exposure, claims or loss out of range");
        }
        if (addedRows >= MOST_ROWS) {
            throw new IllegalStateException("no room for another row");
        }
        int row = addedRows;
        rowLevels[0][row] = first;
        rowLevels[1][row] = second;
        rowLevels[2][row] = third;
        exposures[row] = exposure;
        this.claims[row] = claims;
        losses[row] = loss;
        oldPremiums[row] = NONE;
        live[row] = true;
        addedRows++;
        liveRows++;
        refit();
        return row;
    }

    public int withdraw(int row) throws IndexOutOfBoundsException {
        if (!hasRow(row)) {
            throw new IndexOutOfBoundsException("no such row");
        }
        live[row] = false;
        liveRows--;
        refit();
        return liveRows;
    }

    public int setOld(int row, int premium) throws IndexOutOfBoundsException, IllegalArgumentException {
        if (!hasRow(row)) {
            throw new IndexOutOfBoundsException("no such row");
        }
        if (premium != NONE && !isWithin(premium, 0, MOST_OLD_PREMIUM)) {
            throw new IllegalArgumentException("premium out of range");
        }
        int before = oldPremiums[row];
        oldPremiums[row] = premium;
        return before;
    }

    public int setRules(int credibility, int cap) throws IllegalArgumentException {
        if (!isWithin(credibility, 0, MOST_CREDIBILITY)) {
            throw new IllegalArgumentException("credibility out of range");
        }
        if (cap != NONE && !isWithin(cap, 0, MOST_CAP)) {
            throw new IllegalArgumentException("cap out of range");
        }
        int before = this.credibility;
        this.credibility = credibility;
        this.cap = cap;
        return before;
    }

    public int setFactor(int trait, int level, int factor)
            throws IndexOutOfBoundsException, IllegalArgumentException {
        if (!hasLevel(trait, level)) {
            throw new IndexOutOfBoundsException("no such trait or level");
        }
        if (!isWithin(factor, LEAST_FACTOR, MOST_FACTOR)) {
            throw new IllegalArgumentException("factor out of range");
        }
        int before = factors[trait][level];
        factors[trait][level] = factor;
        refit();
        return before;
    }

    // ---- fitting

    public int pass(int trait) throws IndexOutOfBoundsException {
        if (!hasTrait(trait)) {
            throw new IndexOutOfBoundsException("no such trait");
        }
        return passOver(trait);
    }

    public int settle() {
        for (int round = 1; round <= MOST_ROUNDS; round++) {
            if (changedByRound() == 0) {
                return round;
            }
        }
        return MOST_ROUNDS;
    }

    public int smooth(int trait) throws IndexOutOfBoundsException {
        if (!hasTrait(trait)) {
            throw new IndexOutOfBoundsException("no such trait");
        }
        for (int level = 0; level < LEVELS[trait]; level++) {
            factorsBefore[level] = factors[trait][level];
            groupStarts[level] = level;
        }
        // each join leaves one group less, so there are fewer joins than levels
        for (int joins = 0; joins < LEVELS[trait]; joins++) {
            int falling = lowestFallingLevel(trait);
            if (falling == NONE) {
                break;
            }
            joinToLevelAhead(trait, falling);
        }
        refit();
        return changedSinceBefore(trait);
    }

    public int spread() {
        long cappedSum = cappedTotal();
        if (cappedSum > 0) {
            long ratio = Math.min(UNIT * total(fittedLosses) / cappedSum, MOST_RATIO);
            spreadNow = (int) bounded(spreadNow * ratio / UNIT, LEAST_SPREAD, MOST_SPREAD);
        }
        return spreadNow;
    }

    // ---- what there is; nothing from here on changes anything

    public int rows() {
        return liveRows;
    }

    public long base() {
        return baseNow;
    }

    public int factor(int trait, int level) throws IndexOutOfBoundsException {
        if (!hasLevel(trait, level)) {
            throw new IndexOutOfBoundsException("no such trait or level");
        }
        return factors[trait][level];
    }

    public long fitted(int row) throws IndexOutOfBoundsException {
        if (!hasRow(row)) {
            throw new IndexOutOfBoundsException("no such row");
        }
        return fittedLosses[row];
    }

    public long toldSum(int trait, int level) throws IndexOutOfBoundsException {
        if (!hasLevel(trait, level)) {
            throw new IndexOutOfBoundsException("no such trait or level");
        }
        return levelTotal(losses, trait, level);
    }

    public long fittedSum(int trait, int level) throws IndexOutOfBoundsException {
        if (!hasLevel(trait, level)) {
            throw new IndexOutOfBoundsException("no such trait or level");
        }
        return levelTotal(fittedLosses, trait, level);
    }

    public long worst(int trait) throws IndexOutOfBoundsException {
        if (!hasTrait(trait)) {
            throw new IndexOutOfBoundsException("no such trait");
        }
        long greatest = 0;
        for (int level = 0; level < LEVELS[trait]; level++) {
            long difference = levelTotal(losses, trait, level) - levelTotal(fittedLosses, trait, level);
            greatest = Math.max(greatest, Math.abs(difference));
        }
        return greatest;
    }

    public long premium(int row) throws IndexOutOfBoundsException {
        if (!hasRow(row)) {
            throw new IndexOutOfBoundsException("no such row");
        }
        return newPremium(row);
    }

    public long capped(int row) throws IndexOutOfBoundsException {
        if (!hasRow(row)) {
            throw new IndexOutOfBoundsException("no such row");
        }
        return cappedPremium(row);
    }

    public long lost() {
        return total(fittedLosses) - cappedTotal();
    }

    public int rankedAt(int place) throws IndexOutOfBoundsException {
        for (int row = 0; row < addedRows; row++) {
            if (live[row] && placeOf(row) == place) {
                return row;
            }
        }
        throw new IndexOutOfBoundsException("no such place");
    }

    // ---- what arguments are looked at with

    private static boolean isWithin(int value, int least, int most) {
        return value >= least && value <= most;
    }

    private static boolean hasTrait(int trait) {
        return trait >= 0 && trait < TRAITS;
    }

    private static boolean hasLevel(int trait, int level) {
        return hasTrait(trait) && level >= 0 && level < LEVELS[trait];
    }

    private boolean hasRow(int row) {
        return row >= 0 && row < addedRows && live[row];
    }

    // ---- sums over the rows that are not withdrawn

    private long total(long[] amounts) {
        long sum = 0;
        for (int row = 0; row < addedRows; row++) {
            if (live[row]) {
                sum += amounts[row];
            }
        }
        return sum;
    }

    private long levelTotal(long[] amounts, int trait, int level) {
        long sum = 0;
        for (int row = 0; row < addedRows; row++) {
            if (live[row] && rowLevels[trait][row] == level) {
                sum += amounts[row];
            }
        }
        return sum;
    }

    private long cappedTotal() {
        long sum = 0;
        for (int row = 0; row < addedRows; row++) {
            if (live[row]) {
                sum += cappedPremium(row);
            }
        }
        return sum;
    }

    // ---- fitted losses and factors

    private void refit() {
        long exposureSum = total(exposures);
        baseNow = exposureSum > 0 ? UNIT * total(losses) / exposureSum : 0;
        for (int row = 0; row < addedRows; row++) {
            fittedLosses[row] = fittedLoss(row);
        }
    }

    private long fittedLoss(int row) {
        long loss = exposures[row] * baseNow / UNIT;
        for (int trait = 0; trait < TRAITS; trait++) {
            loss = loss * factors[trait][rowLevels[trait][row]] / UNIT;
        }
        return loss;
    }

    private int changedByRound() {
        int changed = 0;
        for (int trait = 0; trait < TRAITS; trait++) {
            changed += passOver(trait);
        }
        return changed;
    }

    private int passOver(int trait) {
        int changed = 0;
        for (int level = 0; level < LEVELS[trait]; level++) {
            int found = foundFactor(trait, level);
            if (found != factors[trait][level]) {
                factors[trait][level] = found;
                changed++;
            }
        }
        // only now, so that every level was found by the factors ahead of the pass
        refit();
        return changed;
    }

    private int foundFactor(int trait, int level) {
        int factor = factors[trait][level];
        long fittedTotal = levelTotal(fittedLosses, trait, level);
        long claimTotal = levelTotal(claims, trait, level);
        if (fittedTotal <= 0 || claimTotal <= 0) {
            return factor;
        }
        long target = factor * levelTotal(losses, trait, level) / fittedTotal;
        long step = (target - factor) * claimTotal / (claimTotal + credibility);
        return (int) bounded(factor + step, LEAST_FACTOR, MOST_FACTOR);
    }

    private static long bounded(long value, long least, long most) {
        return Math.min(Math.max(value, least), most);
    }

    // ---- smoothing

    private int lowestFallingLevel(int trait) {
        for (int level = 1; level < LEVELS[trait]; level++) {
            if (factors[trait][level] < factors[trait][level - 1]) {
                return level;
            }
        }
        return NONE;
    }

    // a group has one factor, so a level that falls is the first one of its group
    private void joinToLevelAhead(int trait, int falling) {
        int start = groupStarts[falling - 1];
        for (int level = falling; level < LEVELS[trait]; level++) {
            if (groupStarts[level] == falling) {
                groupStarts[level] = start;
            }
        }
        int mean = groupMean(trait, start);
        for (int level = start; level < LEVELS[trait]; level++) {
            if (groupStarts[level] == start) {
                factors[trait][level] = mean;
            }
        }
    }

    private int groupMean(int trait, int start) {
        long factorSum = 0;
        int levels = 0;
        long weightedSum = 0;
        long weights = 0;
        for (int level = start; level < LEVELS[trait]; level++) {
            if (groupStarts[level] == start) {
                long weight = levelTotal(exposures, trait, level);
                factorSum += factors[trait][level];
                levels++;
                weightedSum += weight * factors[trait][level];
                weights += weight;
            }
        }
        return (int) (weights > 0 ? weightedSum / weights : factorSum / Math.max(levels, 1));
    }

    private int changedSinceBefore(int trait) {
        int changed = 0;
        for (int level = 0; level < LEVELS[trait]; level++) {
            if (factors[trait][level] != factorsBefore[level]) {
                changed++;
            }
        }
        return changed;
    }

    // ---- premiums and places

    private long newPremium(int row) {
        return fittedLosses[row] * spreadNow / UNIT;
    }

    private long cappedPremium(int row) {
        if (cap == NONE || oldPremiums[row] == NONE) {
            return newPremium(row);
        }
        long old = oldPremiums[row];
        long least = old * Math.max(PERCENT - cap, 0) / PERCENT;
        long most = old * (PERCENT + cap) / PERCENT;
        return bounded(newPremium(row), least, most);
    }

    private int placeOf(int row) {
        int place = 0;
        for (int other = 0; other < addedRows; other++) {
            if (live[other] && isAhead(other, row)) {
                place++;
            }
        }
        return place;
    }

    private boolean isAhead(int row, int other) {
        // crosswise products compare the two fractions exactly
        long mine = losses[row] * (1 + fittedLosses[other]);
        long others = losses[other] * (1 + fittedLosses[row]);
        return mine > others || (mine == others && row < other);
    }
}
