/**
 * The edges of rows and settings, sentence by sentence: the first and the last value that is
 * taken, nothing there yet, all places taken, and rows that are withdrawn. What is refused stands
 * in RefusedCallsTest.
 */
public final class RowsEdgesTest {
    private static final int[] LEVELS = {4, 3, 4};

    public static void main(String[] args) {
        aNewObjectHasNothing();
        aNewObjectHasItsFirstSettings();
        aNewObjectBesideAUsedOneIsNew();
        everyLevelIsTaken();
        exposuresOf1And1000AreTaken();
        claimsOf0And1000AreTaken();
        lossesOf0And1000000AreTaken();
        rowsAreNumberedFrom0To39();
        withdrawnRowsAreAmongTheForty();
        aRefusedRowTakesNoNumber();
        withdrawTellsWhatIsLeft();
        aWithdrawnRowCountsNoMoreInTheBase();
        aWithdrawnRowCountsNoMoreInSums();
        aWithdrawnRowCountsNoMoreInAPass();
        aWithdrawnRowCountsNoMoreInASmoothing();
        aWithdrawnRowCountsNoMoreInPremiums();
        aWithdrawnRowCountsNoMoreInTheOrder();
        oldPremiumsOf0And10000000AreTaken();
        anOldPremiumOfNoneIsTaken();
        eachRowHasItsOwnOldPremium();
        credibilitiesOf0And1000AreTaken();
        capsOf0And1000AndNoneAreTaken();
        factorsOf100And100000AreTakenAtEveryLevel();
        theBaseIs0WithoutRows();
        theCall512IsAnswered();
        Check.end();
    }

    private static RateFitter fortyRows() {
        RateFitter x = new RateFitter();
        for (int row = 0; row < 40; row++) {
            x.add(row % 4, row % 3, row % 4, 10, 1, 1000);
        }
        return x;
    }

    // "No rows"
    private static void aNewObjectHasNothing() {
        RateFitter x = new RateFitter();
        Check.equal("1: rows", x.rows(), 0);
        Check.equal("1: base", x.base(), 0);
        Check.equal("1: lost", x.lost(), 0);
        for (int trait = 0; trait < LEVELS.length; trait++) {
            Check.equal("1: worst", x.worst(trait), 0);
            for (int level = 0; level < LEVELS[trait]; level++) {
                Check.equal("1: told sum", x.toldSum(trait, level), 0);
                Check.equal("1: fitted sum", x.fittedSum(trait, level), 0);
            }
        }
        Check.noRow("1: row 0", () -> x.fitted(0));
        Check.noRow("1: place 0", () -> x.rankedAt(0));
    }

    // "all factors 10000; the credibility 0, the spread 10000, no cap"
    private static void aNewObjectHasItsFirstSettings() {
        RateFitter x = new RateFitter();
        for (int trait = 0; trait < LEVELS.length; trait++) {
            for (int level = 0; level < LEVELS[trait]; level++) {
                Check.equal("1: factor " + trait + " " + level, x.factor(trait, level), 10000);
            }
        }
        x.add(0, 0, 0, 10, 1, 5000);
        Check.equal("1: the spread", x.premium(0), 5000);
        x.setOld(0, 1);
        Check.equal("1: no cap downward", x.capped(0), 5000);
        x.setOld(0, 10000000);
        Check.equal("1: no cap upward", x.capped(0), 5000);
        Check.equal("1: the credibility", x.setRules(0, -1), 0);
    }

    private static void aNewObjectBesideAUsedOneIsNew() {
        String untouched = Probe.everything(new RateFitter(), 0);
        RateFitter used = fortyRows();
        used.setOld(0, 1);
        used.setRules(500, 0);
        used.setFactor(1, 1, 20000);
        used.spread();
        String before = Probe.answers(used, 40);
        RateFitter x = new RateFitter();
        Check.same("1: as one that was made ahead of it", Probe.everything(x, 0), untouched);
        Check.same("1: the used one stays as it is", Probe.answers(used, 40), before);
    }

    // "first: 0 to 3", "second: 0 to 2", "third: 0 to 3"
    private static void everyLevelIsTaken() {
        for (int trait = 0; trait < LEVELS.length; trait++) {
            for (int level = 0; level < LEVELS[trait]; level++) {
                int[] levels = {0, 0, 0};
                levels[trait] = level;
                RateFitter x = new RateFitter();
                x.add(levels[0], levels[1], levels[2], 1, 1, 777);
                for (int other = 0; other < LEVELS[trait]; other++) {
                    Check.equal("2: row at " + trait + " " + level + " of " + other,
                            x.toldSum(trait, other), other == level ? 777 : 0);
                }
            }
        }
    }

    // "exposure: 1 to 1000"
    private static void exposuresOf1And1000AreTaken() {
        RateFitter x = new RateFitter();
        x.add(0, 0, 0, 1, 0, 500);
        Check.equal("2: exposure 1", x.base(), 5000000);
        x.add(0, 0, 0, 1000, 0, 501);
        Check.equal("2: exposure 1000", x.base(), 10000);
        Check.equal("2: fitted of exposure 1", x.fitted(0), 1);
        Check.equal("2: fitted of exposure 1000", x.fitted(1), 1000);
    }

    // "claims: 0 to 1000"; by the credibility 1000 a factor goes half of its way
    private static void claimsOf0And1000AreTaken() {
        RateFitter x = new RateFitter();
        x.add(0, 0, 0, 10, 0, 1000);
        x.add(1, 0, 0, 10, 1000, 3000);
        x.setRules(1000, -1);
        Check.equal("2: one level moves", x.pass(0), 1);
        Check.equal("2: claims 0", x.factor(0, 0), 10000);
        Check.equal("2: claims 1000", x.factor(0, 1), 12500);
    }

    // "loss: 0 to 1000000"
    private static void lossesOf0And1000000AreTaken() {
        RateFitter x = new RateFitter();
        x.add(0, 0, 0, 1, 0, 0);
        x.add(1, 0, 0, 1, 0, 1000000);
        Check.equal("2: loss 0", x.toldSum(0, 0), 0);
        Check.equal("2: loss 1000000", x.toldSum(0, 1), 1000000);
    }

    // "Rows are numbered from 0 on; at most 40 are added"
    private static void rowsAreNumberedFrom0To39() {
        RateFitter x = new RateFitter();
        for (int row = 0; row < 40; row++) {
            Check.equal("2: number", x.add(0, 0, 0, 1, 0, row), row);
            Check.equal("2: rows", x.rows(), row + 1);
        }
        for (int row = 0; row < 40; row++) {
            Check.equal("2: its place is its own", x.rankedAt(row), 39 - row);
        }
        Check.badState("2: the row 41", () -> x.add(0, 0, 0, 1, 0, 0));
        Check.badState("2: the row 41 again", () -> x.add(3, 2, 3, 1000, 1000, 1000000));
        Check.equal("2: forty stay", x.rows(), 40);
    }

    // "at most 40 are added"
    private static void withdrawnRowsAreAmongTheForty() {
        RateFitter x = fortyRows();
        for (int row = 0; row < 40; row++) {
            x.withdraw(row);
        }
        Check.equal("2: all are withdrawn", x.rows(), 0);
        Check.badState("2: forty were added", () -> x.add(0, 0, 0, 1, 0, 0));

        RateFitter early = new RateFitter();
        early.add(0, 0, 0, 1, 0, 0);
        early.withdraw(0);
        for (int row = 1; row < 40; row++) {
            Check.equal("2: a number is not used again", early.add(0, 0, 0, 1, 0, 0), row);
        }
        Check.badState("2: forty with the one withdrawn", () -> early.add(0, 0, 0, 1, 0, 0));
        Check.equal("2: thirty-nine", early.rows(), 39);
    }

    private static void aRefusedRowTakesNoNumber() {
        RateFitter x = new RateFitter();
        Check.badArgument("2: refused", () -> x.add(0, 0, 0, 0, 0, 0));
        Check.equal("2: the first number", x.add(0, 0, 0, 1, 0, 0), 0);
        Check.badArgument("2: refused again", () -> x.add(0, 0, 0, 1, 0, 1000001));
        Check.equal("2: the second number", x.add(0, 0, 0, 1, 0, 0), 1);
    }

    // "Returns how many rows are not withdrawn then"
    private static void withdrawTellsWhatIsLeft() {
        RateFitter one = new RateFitter();
        one.add(0, 0, 0, 1, 0, 0);
        Check.equal("3: the only row", one.withdraw(0), 0);
        Check.noRow("3: it is withdrawn", () -> one.withdraw(0));
        Check.equal("3: a row behind it", one.add(0, 0, 0, 1, 0, 0), 1);
        Check.equal("3: is withdrawn by its own number", one.withdraw(1), 0);

        RateFitter x = fortyRows();
        Check.equal("3: the last of forty", x.withdraw(39), 39);
        Check.equal("3: the first of forty", x.withdraw(0), 38);
        Check.equal("11: rows", x.rows(), 38);
        Check.noRow("3: the last twice", () -> x.withdraw(39));
        Check.noRow("3: the first twice", () -> x.withdraw(0));
        Check.equal("11: rows stay", x.rows(), 38);
    }

    private static RateFitter withOneWithdrawn() {
        RateFitter x = new RateFitter();
        x.add(0, 0, 0, 10, 2, 1000);
        x.add(0, 0, 0, 30, 6, 7000);
        x.add(1, 0, 0, 10, 2, 3000);
        x.withdraw(1);
        return x;
    }

    // "a row that is withdrawn counts no more"
    private static void aWithdrawnRowCountsNoMoreInTheBase() {
        RateFitter x = withOneWithdrawn();
        // 4000 of 20
        Check.equal("3: losses and exposures of two rows", x.base(), 2000000);
        Check.equal("3: rows", x.rows(), 2);
    }

    private static void aWithdrawnRowCountsNoMoreInSums() {
        RateFitter x = withOneWithdrawn();
        Check.equal("3: told", x.toldSum(0, 0), 1000);
        Check.equal("3: fitted", x.fittedSum(0, 0), 2000);
        Check.equal("3: worst", x.worst(0), 1000);
        Check.equal("3: told of all", x.toldSum(2, 0), 4000);
        Check.equal("3: fitted of all", x.fittedSum(1, 0), 4000);
    }

    private static void aWithdrawnRowCountsNoMoreInAPass() {
        RateFitter x = withOneWithdrawn();
        x.setRules(2, -1);
        Check.equal("3: both levels move", x.pass(0), 2);
        // to 5000 and 15000 by 2 of 4 claims; with the withdrawn claims it would be 6000
        Check.equal("3: claims of one row", x.factor(0, 0), 7500);
        Check.equal("3: the other level", x.factor(0, 1), 12500);
    }

    private static void aWithdrawnRowCountsNoMoreInASmoothing() {
        RateFitter x = withOneWithdrawn();
        x.setFactor(0, 0, 12000);
        Check.equal("3: the levels without rows follow", x.smooth(0), 4);
        // 12000 and 10000 by 10 and 10; with the withdrawn exposure it would be 11600
        Check.equal("3: exposure of one row", x.factor(0, 0), 11000);
    }

    private static void aWithdrawnRowCountsNoMoreInPremiums() {
        RateFitter x = new RateFitter();
        x.add(0, 0, 0, 10, 1, 2000);
        x.add(0, 0, 0, 10, 1, 2000);
        x.setOld(1, 1);
        x.setRules(0, 0);
        Check.equal("20: lost by the second row", x.lost(), 1999);
        x.withdraw(1);
        Check.equal("20: nothing is lost any more", x.lost(), 0);
        Check.equal("10: nor spread", x.spread(), 10000);
    }

    private static void aWithdrawnRowCountsNoMoreInTheOrder() {
        RateFitter x = withOneWithdrawn();
        Check.equal("21: first", x.rankedAt(0), 2);
        Check.equal("21: last", x.rankedAt(1), 0);
        Check.noRow("21: no third", () -> x.rankedAt(2));
    }

    // "premium: 0 to 10000000"
    private static void oldPremiumsOf0And10000000AreTaken() {
        RateFitter x = new RateFitter();
        x.add(0, 0, 0, 10, 1, 1000);
        x.setRules(0, 0);
        Check.equal("4: none before", x.setOld(0, 0), -1);
        Check.equal("4: 0 is an old premium", x.capped(0), 0);
        Check.equal("4: 0 before", x.setOld(0, 10000000), 0);
        Check.equal("4: the greatest", x.capped(0), 10000000);
        Check.equal("4: the greatest before", x.setOld(0, 9999999), 10000000);
        Check.equal("4: one less", x.capped(0), 9999999);
    }

    // "-1 for none"
    private static void anOldPremiumOfNoneIsTaken() {
        RateFitter x = new RateFitter();
        x.add(0, 0, 0, 10, 1, 1000);
        x.setRules(0, 0);
        Check.equal("4: none before and after", x.setOld(0, -1), -1);
        Check.equal("4: without one", x.capped(0), 1000);
        Check.equal("4: still none", x.setOld(0, 1), -1);
        Check.equal("4: 1 before", x.setOld(0, -1), 1);
        Check.equal("4: without one again", x.capped(0), 1000);
    }

    // "Each row can have an old premium"
    private static void eachRowHasItsOwnOldPremium() {
        RateFitter x = fortyRows();
        for (int row = 0; row < 40; row++) {
            Check.equal("4: none before", x.setOld(row, 100 + row), -1);
        }
        x.setRules(0, 0);
        for (int row = 0; row < 40; row++) {
            Check.equal("4: capped by its own", x.capped(row), 100 + row);
        }
        for (int row = 39; row >= 0; row--) {
            Check.equal("4: its own before", x.setOld(row, -1), 100 + row);
        }
    }

    // "credibility: 0 to 1000"
    private static void credibilitiesOf0And1000AreTaken() {
        Check.equal("5: by 0 all of the way", movedBy(0), 15000);
        Check.equal("5: by 1 a thousandth less", movedBy(1), 14995);
        Check.equal("5: by 1000 half of the way", movedBy(1000), 12500);
        RateFitter x = new RateFitter();
        Check.equal("5: before 1000", x.setRules(1000, -1), 0);
        Check.equal("5: before 0", x.setRules(0, -1), 1000);
        Check.equal("5: before 999", x.setRules(999, -1), 0);
        Check.equal("5: 999", x.setRules(0, -1), 999);
    }

    private static long movedBy(int credibility) {
        RateFitter x = new RateFitter();
        x.add(0, 0, 0, 10, 1000, 1000);
        x.add(1, 0, 0, 10, 1000, 3000);
        x.setRules(credibility, -1);
        x.pass(0);
        return x.factor(0, 1);
    }

    // "cap: 0 to 1000; -1 for none"
    private static void capsOf0And1000AndNoneAreTaken() {
        RateFitter x = new RateFitter();
        x.add(0, 0, 0, 10, 1, 5000);
        x.setOld(0, 100);
        x.setRules(0, 0);
        Check.equal("5: cap 0", x.capped(0), 100);
        x.setRules(0, 1);
        Check.equal("5: cap 1", x.capped(0), 101);
        x.setRules(0, 1000);
        Check.equal("5: cap 1000", x.capped(0), 1100);
        x.setRules(0, 999);
        Check.equal("5: cap 999", x.capped(0), 1099);
        x.setRules(0, -1);
        Check.equal("5: no cap", x.capped(0), 5000);
    }

    // "factor: 100 to 100000", "at first 10000"
    private static void factorsOf100And100000AreTakenAtEveryLevel() {
        for (int trait = 0; trait < LEVELS.length; trait++) {
            for (int level = 0; level < LEVELS[trait]; level++) {
                int[] levels = {0, 0, 0};
                levels[trait] = level;
                RateFitter x = new RateFitter();
                x.add(levels[0], levels[1], levels[2], 10, 1, 1000);
                Check.equal("6: before the least", x.setFactor(trait, level, 100), 10000);
                Check.equal("6: the least", x.fitted(0), 10);
                Check.equal("6: before the greatest", x.setFactor(trait, level, 100000), 100);
                Check.equal("6: the greatest", x.fitted(0), 10000);
                Check.equal("6: the greatest before", x.setFactor(trait, level, 10000), 100000);
            }
        }
    }

    // "0 without rows"
    private static void theBaseIs0WithoutRows() {
        RateFitter x = new RateFitter();
        Check.equal("12: none added", x.base(), 0);
        x.add(0, 0, 0, 1, 1, 1);
        Check.equal("12: the least loss of the least exposure", x.base(), 10000);
        x.withdraw(0);
        Check.equal("12: all withdrawn", x.base(), 0);
        x.add(0, 0, 0, 1000, 1, 0);
        Check.equal("12: a row without loss", x.base(), 0);
        x.add(0, 0, 0, 1, 1, 1000000);
        Check.equal("12: rows again", x.base(), 9990009);
    }

    // "An object is used for at most 512 calls"
    private static void theCall512IsAnswered() {
        RateFitter x = fortyRows();
        for (int calls = 40; calls < 510; calls++) {
            x.setFactor(calls % 3, 0, 100 + calls);
        }
        Check.badState("2: call 511", () -> x.add(0, 0, 0, 1, 0, 0));
        Check.equal("11: call 512", x.rows(), 40);
    }
}
