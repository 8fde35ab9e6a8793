/** The edges of passes, settling and smoothing, sentence by sentence. */
public final class FittingEdgesTest {
    public static void main(String[] args) {
        aLevelWithoutRowsStays();
        aFittedSumOf0Stays();
        noLossesAtAllStay();
        withoutClaimsItStays();
        theFirstClaimMoves();
        theClaimsAreThoseOfAllRowsOfTheLevel();
        theTargetIsRoundedDown();
        theStepIsTruncatedToward0();
        aFactorIsAtLeast100();
        aFactorIsAtMost100000();
        aTargetBeyond32BitsIsStillTheMost();
        aToldSumOf0GoesToTheLeast();
        aPassCountsWhatChanges();
        aPassOverEachTrait();
        settlingWithoutRowsIsOneRound();
        settlingCountsTheRoundThatChangesNone();
        settlingIsAtMost60Rounds();
        smoothingWithoutRowsIsThePlainMean();
        smoothingJoinsALesserFactorAlone();
        smoothingLooksAtEachPairOfLevels();
        smoothingJoinsTheLowestLevelFirst();
        smoothingTakesTheLevelAheadAlone();
        smoothingJoinsTwoGroups();
        smoothingForgetsTheJoinsOfAnEarlierOne();
        smoothingByExposuresOf1And1000();
        smoothingWhereSomeExposuresAre0();
        smoothingWhereAllExposuresAre0();
        Check.end();
    }

    private static RateFitter twoRows(int firstLoss, int secondLoss) {
        RateFitter x = new RateFitter();
        x.add(0, 0, 0, 10, 5, firstLoss);
        x.add(1, 0, 0, 10, 5, secondLoss);
        return x;
    }

    private static void factors(String what, RateFitter x, int trait, int... due) {
        for (int level = 0; level < due.length; level++) {
            Check.equal(what + ", level " + level, x.factor(trait, level), due[level]);
        }
    }

    private static void setFactors(RateFitter x, int trait, int... factors) {
        for (int level = 0; level < factors.length; level++) {
            x.setFactor(trait, level, factors[level]);
        }
    }

    // ---- promise 7

    // "If there are no such rows .. its factor stays"
    private static void aLevelWithoutRowsStays() {
        RateFitter none = new RateFitter();
        setFactors(none, 0, 100, 20000, 100000, 777);
        Check.equal("7: no rows at all", none.pass(0), 0);
        factors("7: no rows at all", none, 0, 100, 20000, 100000, 777);

        RateFitter x = twoRows(1000, 3000);
        setFactors(x, 0, 10000, 10000, 777, 100000);
        Check.equal("7: two levels have rows", x.pass(0), 2);
        factors("7: two have none", x, 0, 5000, 15000, 777, 100000);
        x.withdraw(1);
        x.pass(0);
        Check.equal("7: its rows are withdrawn", x.factor(0, 1), 15000);
    }

    // "or the fitted sum is 0, its factor stays"
    private static void aFittedSumOf0Stays() {
        RateFitter x = new RateFitter();
        x.add(0, 0, 0, 1, 5, 3);
        x.add(1, 1, 0, 1, 5, 150);
        // the base gives 76: times 132 it is 1, and times 131 it is 0
        x.setFactor(0, 0, 132);
        Check.equal("7: the fitted sum is 1", x.fittedSum(0, 0), 1);
        Check.equal("7: both move", x.pass(0), 2);
        Check.equal("7: by 3 for 1", x.factor(0, 0), 396);
        x.setFactor(0, 0, 131);
        Check.equal("7: the fitted sum is 0", x.fittedSum(0, 0), 0);
        Check.equal("7: the other level alone moves", x.pass(0), 1);
        Check.equal("7: it stays", x.factor(0, 0), 131);
    }

    private static void noLossesAtAllStay() {
        RateFitter x = twoRows(0, 0);
        setFactors(x, 0, 20000, 30000);
        Check.equal("7: the base is 0", x.pass(0), 0);
        factors("7: the base is 0", x, 0, 20000, 30000);
        Check.equal("8: the base is 0", x.settle(), 1);
    }

    private static RateFitter withClaims(int claims, int credibility) {
        RateFitter x = new RateFitter();
        x.add(0, 0, 0, 10, claims, 1000);
        x.add(1, 0, 0, 10, 0, 3000);
        x.setRules(credibility, -1);
        return x;
    }

    // "(Without claims it stays.)"
    private static void withoutClaimsItStays() {
        RateFitter zero = withClaims(0, 0);
        Check.equal("7: claims and credibility 0", zero.pass(0), 0);
        factors("7: claims and credibility 0", zero, 0, 10000, 10000);
        RateFitter x = withClaims(0, 1000);
        Check.equal("7: claims 0, credibility 1000", x.pass(0), 0);
        factors("7: claims 0, credibility 1000", x, 0, 10000, 10000);
    }

    private static void theFirstClaimMoves() {
        RateFitter x = withClaims(1, 0);
        Check.equal("7: one claim", x.pass(0), 1);
        factors("7: one claim, credibility 0", x, 0, 5000, 10000);
        RateFitter pulled = withClaims(1, 1000);
        Check.equal("7: one claim of 1001", pulled.pass(0), 1);
        // -5000 / 1001 is -4.995
        factors("7: one claim, credibility 1000", pulled, 0, 9996, 10000);
    }

    // "the claims those of all rows that have the level"
    private static void theClaimsAreThoseOfAllRowsOfTheLevel() {
        RateFitter x = new RateFitter();
        x.add(0, 0, 0, 5, 1, 1000);
        x.add(0, 1, 1, 5, 2, 0);
        x.add(1, 0, 0, 10, 1000, 3000);
        x.setRules(3, -1);
        x.pass(0);
        Check.equal("7: half of the way by 3 claims of 6", x.factor(0, 0), 7500);
        Check.equal("7: the other level by its own", x.factor(0, 1), 14985);
    }

    // "All divisions are rounded down"
    private static void theTargetIsRoundedDown() {
        RateFitter x = new RateFitter();
        x.add(0, 0, 0, 1, 1, 1);
        x.add(1, 0, 0, 2, 1, 8);
        x.pass(0);
        // 10000 * 1 / 3 and 10000 * 8 / 6
        factors("7: thirds", x, 0, 3333, 13333);
    }

    // "the quotient truncated toward 0"
    private static void theStepIsTruncatedToward0() {
        RateFitter x = new RateFitter();
        x.add(0, 0, 0, 1, 1, 1);
        x.add(1, 0, 0, 2, 1, 8);
        x.setRules(3, -1);
        x.pass(0);
        // -6667 / 4 is -1666.75 and 3333 / 4 is 833.25
        factors("7: quarters", x, 0, 8334, 10833);

        RateFitter stays = twoRows(9999, 10001);
        stays.setRules(5, -1);
        Check.equal("7: a step of a half is none", stays.pass(0), 0);
        stays.setRules(0, -1);
        Check.equal("7: a step of 1 is one", stays.pass(0), 2);
        factors("7: a step of 1", stays, 0, 9999, 10001);
    }

    // "at least 100": the level 0 has a fitted sum of 10000, so its target is its loss
    private static void aFactorIsAtLeast100() {
        Check.equal("7: target 101", lowFactor(101), 101);
        Check.equal("7: target 100", lowFactor(100), 100);
        Check.equal("7: target 99", lowFactor(99), 100);
        Check.equal("7: target 0", lowFactor(0), 100);
    }

    private static long lowFactor(int loss) {
        RateFitter x = new RateFitter();
        x.add(0, 0, 0, 1000, 1, loss);
        x.add(1, 0, 0, 1000, 1, 20000 - loss);
        x.pass(0);
        return x.factor(0, 0);
    }

    // "at most 100000"
    private static void aFactorIsAtMost100000() {
        Check.equal("7: target 99999", highFactor(99999), 99999);
        Check.equal("7: target 100000", highFactor(100000), 100000);
        Check.equal("7: target 100001", highFactor(100001), 100000);
        Check.equal("7: target 1000000", highFactor(1000000), 100000);
    }

    private static long highFactor(int loss) {
        RateFitter x = new RateFitter();
        x.add(0, 0, 0, 10, 1, loss);
        x.add(1, 0, 0, 1000, 1, 1010000 - loss);
        x.pass(0);
        return x.factor(0, 0);
    }

    private static void aTargetBeyond32BitsIsStillTheMost() {
        RateFitter x = new RateFitter();
        x.add(0, 0, 0, 1, 1, 900000);
        x.add(1, 1, 1, 1000, 1, 0);
        x.setFactor(0, 0, 100000);
        x.setFactor(1, 0, 100);
        x.setFactor(2, 0, 113);
        Check.equal("7: the fitted sum is 1", x.fittedSum(0, 0), 1);
        // the target is 90000000000, of which 32 bits would make a number less than 0
        Check.equal("7: the other level alone moves", x.pass(0), 1);
        Check.equal("7: at the most it stays", x.factor(0, 0), 100000);
    }

    private static void aToldSumOf0GoesToTheLeast() {
        RateFitter x = twoRows(0, 4000);
        Check.equal("7: both move", x.pass(0), 2);
        factors("7: told 0", x, 0, 100, 20000);
        Check.equal("7: at the least it stays", x.pass(0), 0);
    }

    // "Returns how many factors are changed"
    private static void aPassCountsWhatChanges() {
        RateFitter x = new RateFitter();
        for (int level = 0; level < 4; level++) {
            x.add(level, 0, 0, 10, 1, 1000 + 1000 * level);
        }
        Check.equal("7: four", x.pass(0), 4);
        Check.equal("7: none", x.pass(0), 0);
        x.setFactor(0, 3, 9000);
        Check.equal("7: the last alone", x.pass(0), 1);
        x.setFactor(0, 0, 9000);
        Check.equal("7: the first alone", x.pass(0), 1);
    }

    private static void aPassOverEachTrait() {
        RateFitter x = new RateFitter();
        x.add(3, 2, 3, 10, 1, 1000);
        x.add(0, 0, 0, 10, 1, 3000);
        for (int trait = 0; trait < 3; trait++) {
            int last = trait == 1 ? 2 : 3;
            Check.equal("7: both levels of " + trait, x.pass(trait), 2);
            Check.equal("7: last level of " + trait, x.factor(trait, last), 5000);
            Check.equal("7: first level of " + trait, x.factor(trait, 0), 15000);
            x.setFactor(trait, 0, 10000);
            x.setFactor(trait, last, 10000);
        }
    }

    // ---- promise 8

    private static void settlingWithoutRowsIsOneRound() {
        RateFitter x = new RateFitter();
        Check.equal("8: without rows", x.settle(), 1);
        Check.equal("8: without rows again", x.settle(), 1);
        factors("8: without rows", x, 0, 10000, 10000, 10000, 10000);
    }

    // "that which changes none included"
    private static void settlingCountsTheRoundThatChangesNone() {
        Check.equal("8: nothing to change", twoRows(2000, 2000).settle(), 1);
        RateFitter x = twoRows(1000, 3000);
        Check.equal("8: one round changes", x.settle(), 2);
        Check.equal("8: settled", x.settle(), 1);
        // a round is over all traits: the last one alone changes here
        RateFitter last = new RateFitter();
        last.add(0, 0, 0, 10, 5, 1000);
        last.add(0, 0, 3, 10, 5, 3000);
        Check.equal("8: the trait 2 alone changes", last.settle(), 2);
        factors("8: the trait 2", last, 2, 5000, 10000, 10000, 15000);
    }

    // "at most 60"
    private static void settlingIsAtMost60Rounds() {
        Check.equal("8: the round 59 changes none", pulled(100, 36).settle(), 59);
        RateFitter at60 = pulled(200, 37);
        Check.equal("8: the round 60 changes none", at60.settle(), 60);
        Check.equal("8: it is settled", at60.settle(), 1);
        RateFitter at61 = pulled(100, 37);
        Check.equal("8: the round 61 would change none", at61.settle(), 60);
        Check.equal("8: now it does", at61.settle(), 1);
        RateFitter at62 = pulled(100, 38);
        Check.equal("8: the round 61 would change", at62.settle(), 60);
        Check.equal("8: now it does and the next changes none", at62.settle(), 2);
    }

    private static RateFitter pulled(int firstLoss, int credibility) {
        RateFitter x = twoRows(firstLoss, 3000);
        x.setRules(credibility, -1);
        return x;
    }

    // ---- promise 9

    private static void smoothingWithoutRowsIsThePlainMean() {
        RateFitter x = new RateFitter();
        for (int trait = 0; trait < 3; trait++) {
            Check.equal("9: nothing falls in " + trait, x.smooth(trait), 0);
        }
        setFactors(x, 0, 40000, 30000, 20000, 10001);
        // 35000; then 90000 / 3; then 100001 / 4
        Check.equal("9: all fall", x.smooth(0), 4);
        factors("9: all fall", x, 0, 25000, 25000, 25000, 25000);
        setFactors(x, 1, 100, 100000, 100);
        Check.equal("9: the least and the greatest", x.smooth(1), 2);
        factors("9: the least and the greatest", x, 1, 100, 50050, 50050);
    }

    // "some level has a lesser factor than the level ahead of it"
    private static void smoothingJoinsALesserFactorAlone() {
        RateFitter x = twoRows(1000, 1000);
        setFactors(x, 0, 10000, 10000, 10000, 10001);
        Check.equal("9: equal ones stay", x.smooth(0), 0);
        factors("9: equal ones stay", x, 0, 10000, 10000, 10000, 10001);
        setFactors(x, 0, 10002, 10000, 20000, 20000);
        Check.equal("9: lesser by 2", x.smooth(0), 2);
        factors("9: lesser by 2", x, 0, 10001, 10001, 20000, 20000);
        setFactors(x, 0, 10000, 9999, 20000, 20000);
        Check.equal("9: lesser by 1", x.smooth(0), 1);
        factors("9: lesser by 1, rounded down", x, 0, 9999, 9999, 20000, 20000);
    }

    private static void smoothingLooksAtEachPairOfLevels() {
        RateFitter x = new RateFitter();
        setFactors(x, 0, 2000, 1000, 3000, 4000);
        x.smooth(0);
        factors("9: the first pair", x, 0, 1500, 1500, 3000, 4000);
        setFactors(x, 0, 1000, 3000, 2000, 4000);
        x.smooth(0);
        factors("9: the middle pair", x, 0, 1000, 2500, 2500, 4000);
        setFactors(x, 2, 1000, 2000, 4000, 3000);
        x.smooth(2);
        factors("9: the last pair", x, 2, 1000, 2000, 3500, 3500);
        setFactors(x, 1, 1000, 3000, 2000);
        x.smooth(1);
        factors("9: the last pair of three levels", x, 1, 1000, 2500, 2500);
        factors("9: the trait 2 stays", x, 2, 1000, 2000, 3500, 3500);
    }

    // "the lowest such level", "the mean of their factors as they are by then"
    private static void smoothingJoinsTheLowestLevelFirst() {
        RateFitter x = new RateFitter();
        setFactors(x, 1, 9000, 8001, 6999);
        x.smooth(1);
        // 17001 / 2, then 23999 / 3; from the highest level on it would be 8000, and all at once too
        factors("9: the lowest first", x, 1, 7999, 7999, 7999);
    }

    // "and the level ahead of it": an equal factor ahead of that one is not joined with it
    private static void smoothingTakesTheLevelAheadAlone() {
        RateFitter x = new RateFitter();
        setFactors(x, 1, 10000, 10000, 4003);
        x.smooth(1);
        // 14003 / 2, then (10000 + 2 * 7001) / 3; all at once it would be 8001
        factors("9: the level ahead first", x, 1, 8000, 8000, 8000);
    }

    // "with all that were joined to either one in this smoothing"
    private static void smoothingJoinsTwoGroups() {
        RateFitter x = new RateFitter();
        int[] exposures = {10, 20, 30, 40};
        for (int level = 0; level < 4; level++) {
            x.add(level, 0, 0, exposures[level], 1, 1000);
        }
        setFactors(x, 0, 21000, 12000, 18000, 11000);
        // 15000 for 0 and 1, 14000 for 2 and 3: (15000 * 30 + 14000 * 70) / 100
        Check.equal("9: all four", x.smooth(0), 4);
        factors("9: two groups are joined", x, 0, 14300, 14300, 14300, 14300);
    }

    // "in this smoothing"
    private static void smoothingForgetsTheJoinsOfAnEarlierOne() {
        RateFitter x = new RateFitter();
        setFactors(x, 0, 2000, 1000, 5000, 6000);
        x.smooth(0);
        setFactors(x, 0, 1000, 5000, 4000, 6000);
        Check.equal("9: two", x.smooth(0), 2);
        factors("9: the level 0 is not joined any more", x, 0, 1000, 4500, 4500, 6000);
    }

    // "by the exposures of their rows, divided by their sum"
    private static void smoothingByExposuresOf1And1000() {
        RateFitter x = new RateFitter();
        x.add(0, 0, 0, 1, 1, 1000);
        x.add(1, 0, 0, 1000, 1, 1000);
        setFactors(x, 0, 20000, 10000, 30000, 40000);
        x.smooth(0);
        // 10020000 / 1001
        factors("9: 1 and 1000", x, 0, 10009, 10009, 30000, 40000);
        RateFitter most = new RateFitter();
        for (int row = 0; row < 40; row++) {
            most.add(row % 2, 0, 0, 1000, 1, 1000);
        }
        setFactors(most, 0, 100000, 99998, 100000, 100000);
        most.smooth(0);
        // 20000 * 199998 is beyond 32 bits
        factors("9: forty times 1000", most, 0, 99999, 99999, 100000, 100000);
    }

    private static void smoothingWhereSomeExposuresAre0() {
        RateFitter x = new RateFitter();
        x.add(1, 0, 0, 1, 1, 1000);
        setFactors(x, 0, 9000, 8000, 7000, 6000);
        Check.equal("9: the one with a row stays", x.smooth(0), 3);
        factors("9: the one with a row", x, 0, 8000, 8000, 8000, 8000);
    }

    // "if all of these are 0, the plain mean": of the joined levels, not of all
    private static void smoothingWhereAllExposuresAre0() {
        RateFitter x = new RateFitter();
        x.add(3, 0, 0, 10, 1, 1000);
        setFactors(x, 0, 9000, 8000, 20000, 30000);
        Check.equal("9: two without rows", x.smooth(0), 2);
        factors("9: the plain mean of two", x, 0, 8500, 8500, 20000, 30000);
        x.add(0, 0, 0, 30, 1, 1000);
        x.withdraw(1);
        setFactors(x, 0, 9000, 8000, 20000, 30000);
        x.smooth(0);
        factors("9: a withdrawn row's exposure is none", x, 0, 8500, 8500, 20000, 30000);
    }
}
