/** Promises 7 to 10: passes, settling, smoothing and spreading. */
public final class FittingTest {
    public static void main(String[] args) {
        promise7PassMovesToTarget();
        promise7PassByCredibility();
        promise7PassRoundsToZero();
        promise7PassStaysWithin();
        promise7PassLeavesWhatCannotBeFound();
        promise7PassFindsAllByTheFactorsAhead();
        promise7PassRefuses();
        promise8Settle();
        promise8SettleEndsAtSixty();
        promise9SmoothByExposure();
        promise9SmoothJoinsBackward();
        promise9SmoothKeepsGroupsTogether();
        promise9SmoothPlainMean();
        promise9SmoothCountsWhatIsChangedAtTheEnd();
        promise9SmoothRefuses();
        promise10Spread();
        promise10SpreadStaysWithin();
        promise10SpreadStaysWithoutPremiums();
        Check.end();
    }

    private static RateFitter twoRows() {
        RateFitter x = new RateFitter();
        x.add(0, 0, 0, 10, 5, 1000);
        x.add(1, 0, 0, 10, 5, 3000);
        return x;
    }

    private static void factors(String what, RateFitter x, int trait, int... due) {
        for (int level = 0; level < due.length; level++) {
            Check.equal(what + ", level " + level, x.factor(trait, level), due[level]);
        }
    }

    private static void setFactors(RateFitter x, int trait, int... factors) {
        for (int level = 0; level < factors.length; level++) {
            x.setFactor(trait, level, factors[level]);
        }
    }

    private static void promise7PassMovesToTarget() {
        RateFitter x = twoRows();
        Check.equal("7: two are changed", x.pass(0), 2);
        factors("7: target", x, 0, 5000, 15000, 10000, 10000);
        Check.equal("7: fitted losses follow", x.fitted(1), 3000);
        Check.equal("7: nothing to change", x.pass(0), 0);
        Check.equal("7: one level holds all", x.pass(1), 0);
    }

    private static void promise7PassByCredibility() {
        RateFitter x = twoRows();
        x.setRules(15, -1);
        Check.equal("7: both move", x.pass(0), 2);
        factors("7: a quarter of the way", x, 0, 8750, 11250, 10000, 10000);
    }

    private static void promise7PassRoundsToZero() {
        RateFitter x = new RateFitter();
        x.add(0, 0, 0, 10, 1, 9999);
        x.add(1, 0, 0, 10, 1, 10001);
        x.setRules(1, -1);
        Check.equal("7: half a step is none", x.pass(0), 0);
        factors("7: both stay", x, 0, 10000, 10000);
    }

    private static void promise7PassStaysWithin() {
        RateFitter x = new RateFitter();
        x.add(0, 0, 0, 1000, 1, 0);
        x.add(1, 0, 0, 1, 1, 1000000);
        Check.equal("7: both hit a bound", x.pass(0), 2);
        factors("7: bounds", x, 0, 100, 100000, 10000, 10000);
        Check.equal("7: they stay there", x.pass(0), 0);
    }

    private static void promise7PassLeavesWhatCannotBeFound() {
        RateFitter x = twoRows();
        x.add(2, 0, 0, 10, 0, 9000);
        setFactors(x, 0, 10000, 10000, 12000, 777);
        x.pass(0);
        Check.equal("7: without claims it stays", x.factor(0, 2), 12000);
        Check.equal("7: without rows it stays", x.factor(0, 3), 777);

        RateFitter small = new RateFitter();
        small.add(0, 0, 0, 1, 5, 3);
        small.add(1, 0, 0, 1, 5, 300);
        small.setFactor(0, 0, 100);
        Check.equal("7: the fitted sum is 1", small.fittedSum(0, 0), 1);
        small.setFactor(1, 0, 100);
        Check.equal("7: the fitted sum is 0", small.fittedSum(0, 0), 0);
        small.pass(0);
        Check.equal("7: with a fitted sum of 0 it stays", small.factor(0, 0), 100);
    }

    private static void promise7PassFindsAllByTheFactorsAhead() {
        RateFitter x = new RateFitter();
        x.add(0, 0, 0, 10, 1, 1000);
        x.add(0, 1, 0, 10, 1, 3000);
        x.add(1, 0, 0, 10, 1, 5000);
        x.add(1, 1, 0, 10, 1, 3000);
        x.pass(0);
        factors("7: trait 0", x, 0, 6666, 13333);
        x.pass(1);
        // fitted 1999 + 3999 for either level, told 6000
        factors("7: trait 1 by the new trait 0", x, 1, 10003, 10003, 10000);
    }

    private static void promise7PassRefuses() {
        RateFitter x = twoRows();
        Check.noRow("7: trait -1", () -> x.pass(-1));
        Check.noRow("7: trait 3", () -> x.pass(3));
        Check.noRow("7: most", () -> x.pass(Integer.MAX_VALUE));
        Check.noRow("7: least", () -> x.pass(Integer.MIN_VALUE));
        factors("7: a refused pass changes nothing", x, 0, 10000, 10000, 10000, 10000);
    }

    private static void promise8Settle() {
        Check.equal("8: without rows", new RateFitter().settle(), 1);
        RateFitter x = twoRows();
        Check.equal("8: one round changes, one does not", x.settle(), 2);
        factors("8: settled", x, 0, 5000, 15000, 10000, 10000);
        Check.equal("8: settled already", x.settle(), 1);
        x.setFactor(2, 3, 500);
        Check.equal("8: a factor without rows stays", x.settle(), 1);
        RateFitter pulled = twoRows();
        pulled.setRules(5, -1);
        Check.equal("8: by credibility", pulled.settle(), 12);
        Check.equal("8: steps end when they are truncated to 0", pulled.factor(0, 0), 5003);
        Check.equal("8: at the other level too", pulled.factor(0, 1), 15001);
    }

    private static void promise8SettleEndsAtSixty() {
        RateFitter x = twoRows();
        x.setRules(1000, -1);
        Check.equal("8: at most 60", x.settle(), 60);
        RateFitter byHand = twoRows();
        byHand.setRules(1000, -1);
        for (int round = 0; round < 60; round++) {
            byHand.pass(0);
            byHand.pass(1);
            byHand.pass(2);
        }
        factors("8: sixty rounds by hand", x, 0, byHand.factor(0, 0), byHand.factor(0, 1));
        Check.equal("8: more follow", x.settle(), 60);
    }

    private static void promise9SmoothByExposure() {
        RateFitter x = new RateFitter();
        x.add(0, 0, 0, 10, 1, 100);
        x.add(1, 0, 0, 20, 1, 100);
        x.add(1, 1, 1, 10, 1, 100);
        setFactors(x, 0, 20000, 10001, 15000, 30000);
        Check.equal("9: two are changed", x.smooth(0), 2);
        factors("9: rounded down", x, 0, 12500, 12500, 15000, 30000);
        Check.equal("9: fitted losses follow", x.fitted(0), 93);
        Check.equal("9: rising already", x.smooth(0), 0);
        Check.equal("9: equal factors stay", x.smooth(1), 0);
        x.withdraw(2);
        setFactors(x, 0, 20000, 10001, 15000, 30000);
        x.smooth(0);
        factors("9: withdrawn exposure does not count", x, 0, 13334, 13334, 15000, 30000);

        RateFitter least = new RateFitter();
        least.add(0, 0, 0, 1, 1, 100);
        least.add(0, 1, 0, 1, 1, 100);
        setFactors(least, 1, 20000, 10001, 20000);
        least.smooth(1);
        factors("9: half of one is rounded down", least, 1, 15000, 15000, 20000);
    }

    private static void promise9SmoothJoinsBackward() {
        RateFitter x = new RateFitter();
        for (int level = 0; level < 4; level++) {
            x.add(level, 0, 0, 10, 1, 100);
        }
        setFactors(x, 0, 10000, 14000, 4000, 9000);
        // 14000 and 4000 give 9000 (1, 2); that is less than 10000: all three give 9333; with 9000: 9249
        Check.equal("9: all are changed", x.smooth(0), 4);
        factors("9: joined backward and forward", x, 0, 9249, 9249, 9249, 9249);
    }

    private static void promise9SmoothKeepsGroupsTogether() {
        RateFitter x = new RateFitter();
        x.add(0, 0, 0, 30, 1, 100);
        x.add(1, 0, 0, 10, 1, 100);
        x.add(2, 0, 0, 40, 1, 100);
        x.add(3, 0, 0, 20, 1, 100);
        setFactors(x, 0, 20000, 12000, 10000, 13000);
        // 18000 for 0 and 1 together, 14000 for 0 to 2 together, and 13800 with the level 3
        Check.equal("9: all are changed", x.smooth(0), 4);
        factors("9: with all that were joined", x, 0, 13800, 13800, 13800, 13800);
        setFactors(x, 0, 20000, 12000, 30000, 10000);
        x.smooth(0);
        factors("9: two groups", x, 0, 18000, 18000, 23333, 23333);
    }

    private static void promise9SmoothPlainMean() {
        RateFitter x = new RateFitter();
        setFactors(x, 2, 10000, 9001, 5000, 20000);
        // 9500 for 0 and 1; then (9500 + 9500 + 5000) / 3
        Check.equal("9: three are changed", x.smooth(2), 3);
        factors("9: plain mean", x, 2, 8000, 8000, 8000, 20000);
        x.add(0, 0, 1, 5, 1, 10);
        setFactors(x, 2, 9000, 8000, 7000, 6000);
        // 8000 by the one exposure that there is; levels without rows then take it over
        Check.equal("9: the one with rows stays", x.smooth(2), 3);
        factors("9: levels without rows weigh nothing", x, 2, 8000, 8000, 8000, 8000);
    }

    private static void promise9SmoothCountsWhatIsChangedAtTheEnd() {
        RateFitter x = new RateFitter();
        x.add(0, 0, 0, 10, 1, 100);
        x.add(0, 1, 0, 10, 1, 100);
        x.add(0, 2, 0, 10, 1, 100);
        setFactors(x, 1, 9000, 8000, 7000);
        // level 1 goes to 8500 and comes back to 8000
        Check.equal("9: level 1 comes back", x.smooth(1), 2);
        factors("9: all 8000", x, 1, 8000, 8000, 8000);
    }

    private static void promise9SmoothRefuses() {
        RateFitter x = twoRows();
        Check.noRow("9: trait -1", () -> x.smooth(-1));
        Check.noRow("9: trait 3", () -> x.smooth(3));
        Check.noRow("9: most", () -> x.smooth(Integer.MAX_VALUE));
        Check.noRow("9: least", () -> x.smooth(Integer.MIN_VALUE));
    }

    private static RateFitter cappedRows() {
        RateFitter x = new RateFitter();
        x.add(0, 0, 0, 10, 1, 1000);
        x.add(1, 0, 0, 10, 1, 3000);
        x.settle();
        x.setOld(1, 1000);
        return x;
    }

    private static void promise10Spread() {
        Check.equal("10: without rows", new RateFitter().spread(), 10000);
        RateFitter x = cappedRows();
        Check.equal("10: without a cap", x.spread(), 10000);
        x.setRules(0, 10);
        // 4000 fitted, 1000 + 1100 capped
        Check.equal("10: ratio 19047", x.spread(), 19047);
        Check.equal("10: premium follows", x.premium(0), 1904);
        // 4000 fitted, 1904 + 1100 capped: ratio 13315
        Check.equal("10: on top of what it was", x.spread(), 25361);
        x.setRules(0, -1);
        // 4000 fitted, 2536 + 7608 capped: ratio 3943
        Check.equal("10: back down", x.spread(), 9999);
    }

    private static void promise10SpreadStaysWithin() {
        RateFitter x = cappedRows();
        x.setRules(0, 0);
        x.setOld(0, 1);
        x.setOld(1, 0);
        // ratio 40000000, held to 1000000
        Check.equal("10: the greatest ratio", x.spread(), 1000000);
        Check.equal("10: the greatest spread", x.spread(), 1000000);
        Check.equal("10: premium by it", x.premium(0), 100000);
        x.setOld(0, 10000000);
        // ratio 4
        Check.equal("10: down", x.spread(), 400);
        Check.equal("10: the least spread", x.spread(), 1);
        Check.equal("10: it stays", x.spread(), 1);
        x.setOld(0, 1);
        // ratio 40000000 again; without its limit the spread would be 4000
        Check.equal("10: the greatest ratio from a small spread", x.spread(), 100);
        RateFitter noLosses = new RateFitter();
        noLosses.add(0, 0, 0, 10, 1, 0);
        noLosses.setOld(0, 100);
        noLosses.setRules(0, 0);
        Check.equal("10: ratio 0", noLosses.spread(), 1);
    }

    private static void promise10SpreadStaysWithoutPremiums() {
        RateFitter x = cappedRows();
        x.setRules(0, 10);
        x.spread();
        x.setOld(0, 0);
        x.setOld(1, 0);
        Check.equal("10: all capped to 0", x.spread(), 19047);
        x.withdraw(0);
        x.withdraw(1);
        Check.equal("10: no rows", x.spread(), 19047);
    }
}
