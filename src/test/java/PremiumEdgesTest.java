/** The edges of the base, fitted losses, sums, premiums, the spread and the order, sentence by sentence. */
public final class PremiumEdgesTest {
    public static void main(String[] args) {
        theBaseIsRoundedDown();
        fittedLossesAreRoundedDownAtEachStep();
        sumsOfALevelWithoutRowsAre0();
        worstLooksAtEveryLevel();
        eachRowHasItsOwnPremium();
        thePremiumIsRoundedDown();
        withoutACapItIsTheNewPremium();
        withoutAnOldPremiumItIsTheNewOne();
        cappedIsAtLeast();
        cappedIsAtMost();
        aCapOf0IsTheOldPremium();
        capsOf99And100And101();
        oldPremiumsOf0And10000000();
        capBoundsAreRoundedDown();
        theSpreadStaysWhereTheSumIs0();
        theRatioIsRoundedDown();
        theRatioIsAtMost1000000();
        theSpreadIsAtLeast1();
        theSpreadIsAtMost1000000();
        theSpreadIsRoundedDown();
        theSpreadIsByCappedPremiumsAheadOfIt();
        theSpreadIsByFittedLossesAndNotByTold();
        lostIsLessThan0Too();
        placesOfNoneAndOneAndForty();
        equalFractionsGoByNumber();
        theFractionIsByOneMore();
        fractionsAreExact();
        productsBeyond32Bits();
        Check.end();
    }

    // its fitted loss is its loss
    private static RateFitter oneRow(int loss) {
        RateFitter x = new RateFitter();
        x.add(0, 0, 0, 1, 1, loss);
        return x;
    }

    private static RateFitter capped(int loss, int old, int cap) {
        RateFitter x = oneRow(loss);
        x.setOld(0, old);
        x.setRules(0, cap);
        return x;
    }

    // ---- promises 12, 14 to 17

    private static void theBaseIsRoundedDown() {
        RateFitter x = new RateFitter();
        x.add(0, 0, 0, 3, 1, 1);
        Check.equal("12: 3333.3", x.base(), 3333);
        x.add(0, 0, 0, 3, 1, 3);
        Check.equal("12: 6666.7", x.base(), 6666);
        x.add(0, 0, 0, 2, 1, 4);
        Check.equal("12: 10000", x.base(), 10000);
    }

    private static void fittedLossesAreRoundedDownAtEachStep() {
        RateFitter x = new RateFitter();
        x.add(3, 2, 3, 1, 1, 5);
        x.add(0, 0, 0, 2, 1, 0);
        Check.equal("14: 16666 / 10000", x.fitted(0), 1);
        Check.equal("14: 33332 / 10000", x.fitted(1), 3);
        for (int trait = 0; trait < 3; trait++) {
            x.setFactor(trait, 0, 13333);
            Check.equal("14: 39999 by " + trait, x.fitted(1), 3);
            x.setFactor(trait, 0, 13334);
            Check.equal("14: 40002 by " + trait, x.fitted(1), 4);
            x.setFactor(trait, 0, 9999);
            Check.equal("14: 29997 by " + trait, x.fitted(1), 2);
            x.setFactor(trait, 0, 10000);
        }
        x.setFactor(0, 0, 3333);
        x.setFactor(1, 0, 100000);
        Check.equal("14: 0 by the trait 0 stays 0", x.fitted(1), 0);
        x.setFactor(0, 0, 100000);
        x.setFactor(1, 0, 3333);
        Check.equal("14: 30 and then 9", x.fitted(1), 9);
        x.setFactor(1, 0, 300);
        x.setFactor(2, 0, 100000);
        Check.equal("14: 30 and then 0 and then 0", x.fitted(1), 0);
    }

    private static void sumsOfALevelWithoutRowsAre0() {
        RateFitter x = oneRow(1000);
        for (int level = 1; level < 4; level++) {
            Check.equal("15: none", x.toldSum(0, level), 0);
            Check.equal("16: none", x.fittedSum(2, level), 0);
        }
        Check.equal("15: one", x.toldSum(0, 0), 1000);
        Check.equal("16: one", x.fittedSum(2, 0), 1000);
        x.withdraw(0);
        Check.equal("15: withdrawn", x.toldSum(0, 0), 0);
        Check.equal("16: withdrawn", x.fittedSum(2, 0), 0);
        Check.equal("17: withdrawn", x.worst(0), 0);
    }

    // "the greatest difference, without its sign .. of all levels"
    private static void worstLooksAtEveryLevel() {
        for (int trait = 0; trait < 3; trait++) {
            int levels = trait == 1 ? 3 : 4;
            for (int level = 0; level < levels; level++) {
                RateFitter x = new RateFitter();
                x.add(trait == 0 ? level : 0, trait == 1 ? level : 0, trait == 2 ? level : 0, 10, 1, 1000);
                Check.equal("17: none", x.worst(trait), 0);
                x.setFactor(trait, level, 12000);
                Check.equal("17: fitted more", x.worst(trait), 200);
                x.setFactor(trait, level, 7000);
                Check.equal("17: fitted less", x.worst(trait), 300);
            }
        }
    }

    // ---- promises 18 and 19

    // "The new premium of a row is its fitted loss, times the spread"
    private static void eachRowHasItsOwnPremium() {
        RateFitter x = new RateFitter();
        for (int row = 0; row < 40; row++) {
            x.add(row % 4, row % 3, row % 4, 1 + row, 1, 10 * (1 + row));
        }
        for (int row = 0; row < 40; row++) {
            Check.equal("18: its own fitted loss", x.premium(row), 10 * (1 + row));
            Check.equal("19: capped without a cap", x.capped(row), 10 * (1 + row));
        }
        x.setOld(0, 0);
        x.setRules(0, 0);
        // 8200 fitted, 8190 capped
        Check.equal("10: the spread", x.spread(), 10012);
        Check.equal("18: of the first row", x.premium(0), 10);
        Check.equal("18: of the last row", x.premium(39), 400);
        x.setFactor(0, 3, 20000);
        Check.equal("18: of the last row by its factor", x.premium(39), 800);
        Check.equal("18: of the row 37 by none", x.premium(37), 380);
    }

    private static void thePremiumIsRoundedDown() {
        RateFitter x = capped(9999, 1, 0);
        x.spread();
        Check.equal("10: held to the greatest", x.spread(), 1000000);
        x.setRules(0, -1);
        // ratio 100, so 10000; then the ratio 10000
        Check.equal("10: back to 10000", x.spread(), 10000);
        x.setRules(0, 0);
        x.setOld(0, 10000);
        Check.equal("10: ratio 9999", x.spread(), 9999);
        // 9999 * 9999 / 10000 is 9998.0001
        Check.equal("18: rounded down", x.premium(0), 9998);
        x.setOld(0, 10000000);
        Check.equal("10: ratio 9", x.spread(), 8);
        // 9999 * 8 / 10000 is 7.9992
        Check.equal("18: rounded down again", x.premium(0), 7);
    }

    // "otherwise it is the new one"
    private static void withoutACapItIsTheNewPremium() {
        Check.equal("19: less than the old one", capped(1, 10000000, -1).capped(0), 1);
        Check.equal("19: more than the old one", capped(1000000, 0, -1).capped(0), 1000000);
    }

    private static void withoutAnOldPremiumItIsTheNewOne() {
        Check.equal("19: cap 0", capped(500, -1, 0).capped(0), 500);
        Check.equal("19: cap 1000", capped(500, -1, 1000).capped(0), 500);
        RateFitter x = capped(500, 100, 0);
        x.add(0, 0, 0, 1, 1, 500);
        Check.equal("19: the row with one", x.capped(0), 100);
        Check.equal("19: the row without one", x.capped(1), 500);
    }

    // "at least the old one times (100 less the cap .."
    private static void cappedIsAtLeast() {
        Check.equal("19: 899", capped(899, 1000, 10).capped(0), 900);
        Check.equal("19: 900", capped(900, 1000, 10).capped(0), 900);
        Check.equal("19: 901", capped(901, 1000, 10).capped(0), 901);
    }

    // "at most the old one times (100 and the cap)"
    private static void cappedIsAtMost() {
        Check.equal("19: 1099", capped(1099, 1000, 10).capped(0), 1099);
        Check.equal("19: 1100", capped(1100, 1000, 10).capped(0), 1100);
        Check.equal("19: 1101", capped(1101, 1000, 10).capped(0), 1100);
    }

    private static void aCapOf0IsTheOldPremium() {
        Check.equal("19: one more", capped(1001, 1000, 0).capped(0), 1000);
        Check.equal("19: the same", capped(1000, 1000, 0).capped(0), 1000);
        Check.equal("19: one less", capped(999, 1000, 0).capped(0), 1000);
    }

    // "100 less the cap, at least 0"
    private static void capsOf99And100And101() {
        Check.equal("19: 99", capped(0, 1000, 99).capped(0), 10);
        Check.equal("19: 100", capped(0, 1000, 100).capped(0), 0);
        Check.equal("19: 101", capped(0, 1000, 101).capped(0), 0);
        Check.equal("19: 1000", capped(0, 10000000, 1000).capped(0), 0);
        Check.equal("19: 99 upward", capped(5000, 1000, 99).capped(0), 1990);
        Check.equal("19: 100 upward", capped(5000, 1000, 100).capped(0), 2000);
        Check.equal("19: 101 upward", capped(5000, 1000, 101).capped(0), 2010);
        Check.equal("19: 1000 upward", capped(50000, 1000, 1000).capped(0), 11000);
    }

    private static void oldPremiumsOf0And10000000() {
        Check.equal("19: 0 and cap 0", capped(5, 0, 0).capped(0), 0);
        Check.equal("19: 0 and cap 1000", capped(5, 0, 1000).capped(0), 0);
        Check.equal("19: 10000000 and cap 0", capped(5, 10000000, 0).capped(0), 10000000);
        Check.equal("19: 10000000 and cap 1", capped(5, 10000000, 1).capped(0), 9900000);
        RateFitter x = capped(1000000, 10000000, 1000);
        x.setFactor(0, 0, 100000);
        x.setFactor(1, 0, 100000);
        x.setFactor(2, 0, 100000);
        // 110000000 is beyond what 32 bits hold of its hundredfold
        Check.equal("19: 10000000 and cap 1000", x.capped(0), 110000000);
    }

    private static void capBoundsAreRoundedDown() {
        // 199 * 99 / 100 is 197.01, 101 * 99 / 100 is 99.99
        Check.equal("19: at least 197.01", capped(0, 199, 1).capped(0), 197);
        Check.equal("19: at least 99.99", capped(0, 101, 1).capped(0), 99);
        // 199 * 101 / 100 is 200.99, 101 * 101 / 100 is 102.01
        Check.equal("19: at most 200.99", capped(5000, 199, 1).capped(0), 200);
        Check.equal("19: at most 102.01", capped(5000, 101, 1).capped(0), 102);
    }

    // ---- promise 10

    // "if that sum is 0, the spread stays"
    private static void theSpreadStaysWhereTheSumIs0() {
        Check.equal("10: without rows", new RateFitter().spread(), 10000);
        Check.equal("10: without losses", oneRow(0).spread(), 10000);
        RateFitter x = capped(1000, 500, 0);
        Check.equal("10: 20000", x.spread(), 20000);
        x.setOld(0, 0);
        Check.equal("10: all capped to 0", x.spread(), 20000);
        x.setOld(0, 1);
        Check.equal("10: a sum of 1", x.spread(), 1000000);
        x.withdraw(0);
        Check.equal("10: withdrawn", x.spread(), 1000000);
    }

    // a cap of 0 makes the sum of capped premiums the old one
    private static void theRatioIsRoundedDown() {
        Check.equal("10: 2 / 3", capped(2, 3, 0).spread(), 6666);
        Check.equal("10: 5 / 3", capped(5, 3, 0).spread(), 16666);
        Check.equal("10: 1", capped(3, 3, 0).spread(), 10000);
    }

    // "at most 1000000": from a spread of 1 it shows
    private static void theRatioIsAtMost1000000() {
        RateFitter x = atSpread1();
        x.setOld(0, 10001);
        // 10000 * 1000000 / 10001 is 999900
        Check.equal("10: ratio 999900", x.spread(), 99);
        x = atSpread1();
        x.setOld(0, 10000);
        Check.equal("10: ratio 1000000", x.spread(), 100);
        x = atSpread1();
        x.setOld(0, 9900);
        // without its limit the ratio would be 1010101
        Check.equal("10: ratio 1000000 at most", x.spread(), 100);
        x = atSpread1();
        x.setOld(0, 1);
        Check.equal("10: ratio 1000000 and not 10000000000", x.spread(), 100);
    }

    private static RateFitter atSpread1() {
        RateFitter x = capped(1000000, 10000000, 0);
        for (int times = 0; times < 5; times++) {
            x.spread();
        }
        return x;
    }

    // "at least 1"
    private static void theSpreadIsAtLeast1() {
        Check.equal("10: 2", capped(2, 10000, 0).spread(), 2);
        Check.equal("10: 1", capped(1, 10000, 0).spread(), 1);
        Check.equal("10: 1 and not 0", capped(1, 10001, 0).spread(), 1);
        Check.equal("10: fitted losses of 0", capped(0, 1, 0).spread(), 1);
        RateFitter x = capped(1, 10001, 0);
        x.spread();
        Check.equal("10: it stays at 1", x.spread(), 1);
    }

    // "at most 1000000", by a ratio that is less than that
    private static void theSpreadIsAtMost1000000() {
        Check.equal("10: 999950", twiceAndThen(20001), 999950);
        Check.equal("10: 1000000", twiceAndThen(20000), 1000000);
        Check.equal("10: 1000000 and not 1000050", twiceAndThen(19999), 1000000);
    }

    private static long twiceAndThen(int old) {
        RateFitter x = capped(1000000, 500000, 0);
        Check.equal("10: twice", x.spread(), 20000);
        x.setOld(0, old);
        return x.spread();
    }

    private static void theSpreadIsRoundedDown() {
        RateFitter x = capped(2, 3, 0);
        x.spread();
        // 6666 * 6666 / 10000 is 4443.5556
        Check.equal("10: rounded down", x.spread(), 4443);
    }

    // "the sum of all capped premiums as they are ahead of it"
    private static void theSpreadIsByCappedPremiumsAheadOfIt() {
        RateFitter x = capped(1000, 500, 0);
        x.add(1, 0, 0, 1, 1, 1000);
        // 2000 for 500 + 1000
        Check.equal("10: first", x.spread(), 13333);
        Check.equal("10: its premium", x.capped(1), 1333);
        // 2000 for 500 + 1333: 10911
        Check.equal("10: second", x.spread(), 14547);
    }

    // "10000 times the sum of all fitted losses"
    private static void theSpreadIsByFittedLossesAndNotByTold() {
        RateFitter x = capped(1000, 500, 0);
        x.setFactor(0, 0, 30000);
        Check.equal("10: fitted 3000 for 500", x.spread(), 60000);
        RateFitter less = capped(1000, 500, 0);
        less.setFactor(2, 0, 1000);
        Check.equal("10: fitted 100 for 500", less.spread(), 2000);
        Check.equal("20: lost by fitted losses too", less.lost(), -400);
    }

    // ---- promise 20

    private static void lostIsLessThan0Too() {
        Check.equal("20: 1", capped(1000, 999, 0).lost(), 1);
        Check.equal("20: 0", capped(1000, 1000, 0).lost(), 0);
        Check.equal("20: -1", capped(1000, 1001, 0).lost(), -1);
        Check.equal("20: all", capped(1000, 0, 0).lost(), 1000);
    }

    // ---- promise 21

    private static void placesOfNoneAndOneAndForty() {
        RateFitter x = new RateFitter();
        Check.noRow("21: no row", () -> x.rankedAt(0));
        x.add(0, 0, 0, 1, 1, 0);
        Check.equal("21: one row", x.rankedAt(0), 0);
        Check.noRow("21: no second", () -> x.rankedAt(1));
        for (int row = 1; row < 40; row++) {
            x.add(0, 0, 0, 1, 1, row);
        }
        for (int place = 0; place < 40; place++) {
            Check.equal("21: place", x.rankedAt(place), 39 - place);
        }
        Check.noRow("21: place 40", () -> x.rankedAt(40));
        Check.noRow("21: place -1", () -> x.rankedAt(-1));
        x.withdraw(39);
        Check.equal("21: the last place now", x.rankedAt(38), 0);
        Check.noRow("21: place 39 now", () -> x.rankedAt(39));
    }

    // "of several the lower number"
    private static void equalFractionsGoByNumber() {
        RateFitter x = new RateFitter();
        for (int row = 0; row < 4; row++) {
            x.add(row, 0, 0, 10, 1, 1000);
        }
        for (int place = 0; place < 4; place++) {
            Check.equal("21: all are the same", x.rankedAt(place), place);
        }
        RateFitter zero = new RateFitter();
        zero.add(0, 0, 0, 1, 1, 0);
        zero.add(1, 0, 0, 1000, 1, 0);
        Check.equal("21: losses of 0 of whatever exposure", zero.rankedAt(0), 0);
        Check.equal("21: the second", zero.rankedAt(1), 1);
        RateFitter half = new RateFitter();
        half.add(0, 0, 0, 1, 1, 2);
        half.add(0, 0, 0, 3, 1, 4);
        half.add(0, 0, 0, 1, 1, 2);
        // the base is 16000: 2 / (1 + 1) and 4 / (1 + 4)
        Check.equal("21: halves first", half.rankedAt(0), 0);
        Check.equal("21: then the other one", half.rankedAt(1), 2);
        Check.equal("21: then the lesser", half.rankedAt(2), 1);
    }

    // "its loss, divided by 1 and its fitted loss, together"
    private static void theFractionIsByOneMore() {
        RateFitter x = new RateFitter();
        x.add(0, 0, 0, 1, 1, 3);
        x.add(1, 0, 0, 1, 1, 4);
        x.setFactor(0, 1, 15000);
        Check.equal("21: 4 / 5 is ahead of 3 / 4", x.rankedAt(0), 1);
        x.setFactor(0, 1, 20000);
        // 3 / (1 + 3) and 4 / (1 + 6)
        Check.equal("21: 4 / 7 is behind 3 / 4", x.rankedAt(0), 0);
        x.setFactor(0, 0, 100);
        x.setFactor(0, 1, 100);
        Check.equal("21: fitted losses of 0", x.rankedAt(0), 1);
    }

    private static void fractionsAreExact() {
        RateFitter x = new RateFitter();
        x.add(0, 0, 0, 1000, 1, 999999);
        x.add(0, 0, 0, 1000, 1, 1000000);
        x.add(0, 0, 0, 1000, 1, 999998);
        Check.equal("21: the greatest", x.rankedAt(0), 1);
        Check.equal("21: less by one", x.rankedAt(1), 0);
        Check.equal("21: less by two", x.rankedAt(2), 2);
    }

    // ---- no product wraps around

    private static void productsBeyond32Bits() {
        RateFitter x = new RateFitter();
        for (int row = 0; row < 40; row++) {
            x.add(row % 2, 0, 0, row < 2 ? 1000 : 1, 1000, 1000000);
        }
        // 10000 * 40000000 / 2038
        Check.equal("12: base", x.base(), 196270853);
        Check.equal("14: of exposure 1000", x.fitted(0), 19627085);
        x.setFactor(0, 0, 100000);
        x.setFactor(1, 0, 100000);
        x.setFactor(2, 0, 100000);
        Check.equal("14: by three times 10", x.fitted(0), 19627085000L);
        Check.equal("14: of exposure 1", x.fitted(2), 19627000);
        // 19627085000 + 19 * 19627000
        Check.equal("16: fitted sum", x.fittedSum(0, 0), 19999998000L);
        Check.equal("15: told sum", x.toldSum(0, 0), 20000000);
        Check.equal("17: worst", x.worst(0), 19979998000L);
        x.setRules(1000, -1);
        Check.equal("7: both are changed", x.pass(0), 2);
        // target 100, by 20000 claims of 21000
        Check.equal("7: down", x.factor(0, 0), 100000 - 95142);
        // fitted 1999999800, so that the target is 100 too
        Check.equal("7: down from 10000", x.factor(0, 1), 10000 - 9428);
    }
}
