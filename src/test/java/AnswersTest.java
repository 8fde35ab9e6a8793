/** Promises 12 to 21: what there is. */
public final class AnswersTest {
    private static final int[] LEVELS = {4, 3, 4};
    private static final int[] WRONG = {-1, Integer.MIN_VALUE, Integer.MAX_VALUE};

    public static void main(String[] args) {
        promise12Base();
        promise13Factor();
        promise14Fitted();
        promises15And16Sums();
        promise17Worst();
        promise18Premium();
        promise19Capped();
        promise20Lost();
        promise21RankedAt();
        promise21RankedAtByExactFractions();
        wrongArguments();
        wrongArgumentsOfFortyRows();
        greatestNumbers();
        Check.end();
    }

    private static void promise12Base() {
        RateFitter x = new RateFitter();
        Check.equal("12: without rows", x.base(), 0);
        x.add(0, 0, 0, 3, 1, 100);
        Check.equal("12: rounded down", x.base(), 333333);
        x.add(0, 0, 0, 4, 1, 0);
        Check.equal("12: all exposures", x.base(), 142857);
        x.setFactor(0, 0, 500);
        Check.equal("12: factors do not matter", x.base(), 142857);
        x.withdraw(0);
        Check.equal("12: no losses", x.base(), 0);
        x.withdraw(1);
        Check.equal("12: without rows again", x.base(), 0);
    }

    private static void promise13Factor() {
        RateFitter x = new RateFitter();
        for (int trait = 0; trait < LEVELS.length; trait++) {
            for (int level = 0; level < LEVELS[trait]; level++) {
                x.setFactor(trait, level, 1000 * trait + level + 100);
            }
        }
        for (int trait = 0; trait < LEVELS.length; trait++) {
            for (int level = 0; level < LEVELS[trait]; level++) {
                Check.equal("13: each its own", x.factor(trait, level), 1000 * trait + level + 100);
            }
        }
    }

    private static void promise14Fitted() {
        RateFitter x = new RateFitter();
        x.add(1, 2, 3, 3, 1, 100);
        // 3 * 333333 / 10000
        Check.equal("14: rounded down", x.fitted(0), 99);
        x.setFactor(0, 1, 15000);
        Check.equal("14: times trait 0", x.fitted(0), 148);
        x.setFactor(1, 2, 5000);
        Check.equal("14: times trait 1", x.fitted(0), 74);
        x.setFactor(2, 3, 20500);
        Check.equal("14: times trait 2", x.fitted(0), 151);
        // 99 * 150 / 10000 = 1, * 10 = 10; in another order it would be 14
        x.setFactor(0, 1, 150);
        x.setFactor(1, 2, 100000);
        x.setFactor(2, 3, 10000);
        Check.equal("14: rounded down one behind the other", x.fitted(0), 10);
    }

    private static void promises15And16Sums() {
        RateFitter x = new RateFitter();
        x.add(0, 0, 0, 10, 1, 1000);
        x.add(0, 1, 3, 20, 2, 4000);
        x.add(3, 1, 0, 20, 3, 5000);
        x.setFactor(0, 3, 20000);
        Check.equal("15: trait 0", x.toldSum(0, 0), 5000);
        Check.equal("15: trait 1", x.toldSum(1, 1), 9000);
        Check.equal("15: trait 2", x.toldSum(2, 3), 4000);
        Check.equal("15: no rows", x.toldSum(0, 1), 0);
        Check.equal("16: trait 0", x.fittedSum(0, 0), 6000);
        Check.equal("16: trait 1", x.fittedSum(1, 1), 12000);
        Check.equal("16: trait 2", x.fittedSum(2, 0), 10000);
        Check.equal("16: no rows", x.fittedSum(0, 1), 0);
    }

    private static void promise17Worst() {
        RateFitter x = new RateFitter();
        Check.equal("17: without rows", x.worst(1), 0);
        x.add(0, 0, 0, 10, 1, 1000);
        x.add(3, 2, 0, 10, 1, 4000);
        Check.equal("17: both by 1500", x.worst(0), 1500);
        x.setFactor(0, 0, 30000);
        Check.equal("17: fitted more than told", x.worst(0), 6500);
        x.setFactor(0, 0, 10000);
        x.setFactor(0, 3, 100);
        Check.equal("17: told more than fitted, at the last level", x.worst(0), 3975);
        Check.equal("17: another trait", x.worst(2), 2475);
    }

    private static void promise18Premium() {
        RateFitter x = new RateFitter();
        x.add(0, 0, 0, 10, 1, 1000);
        x.add(1, 0, 0, 10, 1, 3000);
        Check.equal("18: the spread is 10000", x.premium(0), 2000);
        x.setOld(0, 10);
        x.setRules(0, 50);
        Check.equal("18: not capped", x.premium(0), 2000);
        // 4000 fitted, 2015 capped
        Check.equal("18: the spread", x.spread(), 19851);
        Check.equal("18: times the spread", x.premium(1), 3970);
    }

    private static void promise19Capped() {
        RateFitter x = new RateFitter();
        x.add(0, 0, 0, 10, 1, 1000);
        x.setOld(0, 333);
        Check.equal("19: no cap", x.capped(0), 1000);
        x.setRules(0, 50);
        Check.equal("19: at most, rounded down", x.capped(0), 499);
        x.setOld(0, 2333);
        Check.equal("19: at least, rounded down", x.capped(0), 1166);
        x.setOld(0, 1000);
        Check.equal("19: between", x.capped(0), 1000);
        x.setRules(0, 0);
        x.setOld(0, 1234);
        Check.equal("19: a cap of 0", x.capped(0), 1234);
        x.setRules(0, 100);
        x.setOld(0, 10000000);
        Check.equal("19: a cap of 100 has no least", x.capped(0), 1000);
        x.setRules(0, 1000);
        Check.equal("19: nor one of 1000", x.capped(0), 1000);
        x.setOld(0, 10);
        Check.equal("19: at most 11 times", x.capped(0), 110);
        x.setOld(0, 0);
        Check.equal("19: old 0", x.capped(0), 0);
        x.setOld(0, -1);
        Check.equal("19: none", x.capped(0), 1000);
    }

    private static void promise20Lost() {
        RateFitter x = new RateFitter();
        Check.equal("20: without rows", x.lost(), 0);
        x.add(0, 0, 0, 10, 1, 1000);
        x.add(0, 0, 0, 10, 1, 1000);
        Check.equal("20: nothing capped", x.lost(), 0);
        x.setRules(0, 0);
        x.setOld(0, 300);
        Check.equal("20: lost", x.lost(), 700);
        x.setOld(1, 5000);
        Check.equal("20: won", x.lost(), -3300);
        x.withdraw(1);
        Check.equal("20: one row", x.lost(), 700);
    }

    private static void promise21RankedAt() {
        RateFitter x = new RateFitter();
        Check.noRow("21: without rows", () -> x.rankedAt(0));
        x.add(0, 0, 0, 10, 1, 1000);
        x.add(0, 0, 0, 10, 1, 3000);
        x.add(0, 0, 0, 20, 1, 2000);
        x.add(0, 0, 0, 10, 1, 1000);
        x.add(0, 0, 0, 10, 1, 3000);
        // 1000 / (1 + 1666) and 2000 / (1 + 3333) are the same fraction
        int[] due = {1, 4, 0, 2, 3};
        for (int place = 0; place < due.length; place++) {
            Check.equal("21: place " + place, x.rankedAt(place), due[place]);
        }
        Check.noRow("21: place 5", () -> x.rankedAt(5));
        x.withdraw(4);
        // now 1000 / (1 + 1400) and 2000 / (1 + 2800)
        Check.equal("21: one less", x.rankedAt(1), 2);
        Check.noRow("21: place 4 now", () -> x.rankedAt(4));
        x.withdraw(1);
        Check.equal("21: the first one is withdrawn", x.rankedAt(0), 2);
    }

    private static void promise21RankedAtByExactFractions() {
        RateFitter x = new RateFitter();
        x.add(0, 0, 0, 1000, 1, 999998);
        x.add(1, 0, 0, 1000, 1, 999999);
        x.add(2, 0, 0, 1, 1, 0);
        x.add(3, 0, 0, 1, 1, 0);
        // the fractions of 0 and 1 differ in the sixth place alone
        Check.equal("21: the greater fraction", x.rankedAt(0), 1);
        Check.equal("21: the lesser", x.rankedAt(1), 0);
        Check.equal("21: both 0, the lower number", x.rankedAt(2), 2);
        Check.equal("21: and the higher one", x.rankedAt(3), 3);

        RateFitter one = new RateFitter();
        one.add(0, 0, 0, 1, 1, 3);
        one.add(1, 0, 0, 1, 1, 4);
        one.setFactor(0, 0, 10000);
        one.setFactor(0, 1, 15000);
        // 3 / (1 + 3) and 4 / (1 + 4); without the 1 they would be 1 and 1
        Check.equal("21: fitted 3", one.fitted(0), 3);
        Check.equal("21: fitted 4", one.fitted(1), 4);
        Check.equal("21: by 1 and the fitted loss", one.rankedAt(0), 1);
    }

    private static void wrongArguments() {
        RateFitter x = new RateFitter();
        x.add(0, 0, 0, 10, 1, 1000);
        for (int wrong : WRONG) {
            wrongRow(x, wrong);
            wrongLevel(x, 0, wrong);
            wrongLevel(x, wrong, 0);
            Check.noRow("17: worst of trait " + wrong, () -> x.worst(wrong));
        }
        wrongRow(x, 1);
        wrongRow(x, 40);
        wrongLevel(x, 3, 0);
        wrongLevel(x, 0, 4);
        wrongLevel(x, 1, 3);
        wrongLevel(x, 2, 4);
        Check.noRow("17: worst of trait 3", () -> x.worst(3));
    }

    private static void wrongArgumentsOfFortyRows() {
        RateFitter x = new RateFitter();
        for (int row = 0; row < 40; row++) {
            x.add(0, 0, 0, 10, 1, 1000);
        }
        Check.equal("14: the last row", x.fitted(39), 1000);
        Check.equal("21: the last place", x.rankedAt(39), 39);
        wrongRow(x, 40);
        Check.noRow("3: row 40", () -> x.withdraw(40));
        Check.noRow("4: row 40", () -> x.setOld(40, 5));
    }

    private static void wrongRow(RateFitter x, int row) {
        Check.noRow("14: fitted " + row, () -> x.fitted(row));
        Check.noRow("18: premium " + row, () -> x.premium(row));
        Check.noRow("19: capped " + row, () -> x.capped(row));
        Check.noRow("21: rankedAt " + row, () -> x.rankedAt(row));
    }

    private static void wrongLevel(RateFitter x, int trait, int level) {
        Check.noRow("13: factor " + trait + " " + level, () -> x.factor(trait, level));
        Check.noRow("15: toldSum " + trait + " " + level, () -> x.toldSum(trait, level));
        Check.noRow("16: fittedSum " + trait + " " + level, () -> x.fittedSum(trait, level));
    }

    private static void greatestNumbers() {
        RateFitter x = new RateFitter();
        x.add(0, 0, 0, 1, 1000, 1000000);
        Check.equal("12: greatest base", x.base(), 10000000000L);
        for (int row = 1; row < 40; row++) {
            x.add(0, 0, 0, 1, 1000, 1000000);
        }
        for (int trait = 0; trait < LEVELS.length; trait++) {
            x.setFactor(trait, 0, 100000);
        }
        Check.equal("14: greatest", x.fitted(39), 1000000000L);
        Check.equal("16: greatest", x.fittedSum(1, 0), 40000000000L);
        Check.equal("17: greatest", x.worst(2), 39960000000L);
        x.setRules(0, 0);
        x.setOld(0, 1);
        for (int row = 1; row < 40; row++) {
            x.setOld(row, 0);
        }
        Check.equal("10: greatest", x.spread(), 1000000);
        Check.equal("18: greatest", x.premium(0), 100000000000L);
        x.setRules(0, 1000);
        x.setOld(0, 10000000);
        Check.equal("19: greatest cap", x.capped(0), 110000000L);
        x.setRules(0, -1);
        Check.equal("20: least", x.lost(), 40000000000L - 4000000000000L);
        Check.equal("7: from the greatest", x.pass(0), 1);
        Check.equal("7: down to the least", x.factor(0, 0), 100);
    }
}
