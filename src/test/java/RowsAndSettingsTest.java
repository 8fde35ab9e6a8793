/** Promises 1 to 6 and 11: a new object, rows and settings. */
public final class RowsAndSettingsTest {
    private static final int[] LEVELS = {4, 3, 4};

    public static void main(String[] args) {
        promise1NewObject();
        promise2Add();
        promise2AddRefuses();
        promise2AddRefusesTheRow41();
        promise3Withdraw();
        promise3WithdrawnRowsCountNoMore();
        promise4SetOld();
        promise5SetRules();
        promise6SetFactor();
        promise11Rows();
        Check.end();
    }

    private static void promise1NewObject() {
        RateFitter x = new RateFitter();
        Check.equal("1: rows", x.rows(), 0);
        for (int trait = 0; trait < LEVELS.length; trait++) {
            for (int level = 0; level < LEVELS[trait]; level++) {
                Check.equal("1: factor " + trait + " " + level, x.factor(trait, level), 10000);
            }
        }
        Check.equal("1: spread", x.spread(), 10000);
        x.add(0, 0, 0, 10, 1, 5000);
        x.setOld(0, 1);
        Check.equal("1: no cap", x.capped(0), 5000);
        Check.equal("1: credibility", x.setRules(7, 7), 0);
    }

    private static void promise2Add() {
        RateFitter x = new RateFitter();
        Check.equal("2: the least", x.add(0, 0, 0, 1, 0, 0), 0);
        Check.equal("2: the most", x.add(3, 2, 3, 1000, 1000, 1000000), 1);
        Check.equal("2: loss of 0's level", x.toldSum(0, 0), 0);
        Check.equal("2: level of trait 0", x.toldSum(0, 3), 1000000);
        Check.equal("2: level of trait 1", x.toldSum(1, 2), 1000000);
        Check.equal("2: level of trait 2", x.toldSum(2, 3), 1000000);
        Check.equal("2: exposure", x.base(), 10000L * 1000000 / 1001);
        x.withdraw(0);
        Check.equal("2: numbers are not used again", x.add(1, 1, 1, 1, 1, 1), 2);
        Check.equal("2: it has no old premium", x.setOld(2, 5), -1);
    }

    private static void promise2AddRefuses() {
        RateFitter x = new RateFitter();
        int[] least = {0, 0, 0, 1, 0, 0};
        int[] most = {3, 2, 3, 1000, 1000, 1000000};
        for (int place = 0; place < least.length; place++) {
            refuseAt(x, place, least[place] - 1);
            refuseAt(x, place, most[place] + 1);
            refuseAt(x, place, Integer.MIN_VALUE);
            refuseAt(x, place, Integer.MAX_VALUE);
        }
        Check.equal("2: a refused row is not added", x.rows(), 0);
        Check.equal("2: nor does it take a number", x.add(0, 0, 0, 1, 0, 0), 0);
    }

    private static void refuseAt(RateFitter x, int place, int value) {
        int[] a = {0, 0, 0, 1, 0, 0};
        a[place] = value;
        Check.badArgument("2: argument " + place + " is " + value, () -> x.add(a[0], a[1], a[2], a[3], a[4], a[5]));
    }

    private static void promise2AddRefusesTheRow41() {
        RateFitter x = new RateFitter();
        for (int row = 0; row < 40; row++) {
            Check.equal("2: number", x.add(row % 4, row % 3, row % 4, 1, 1, 100), row);
        }
        Check.badState("2: the row 41", () -> x.add(0, 0, 0, 1, 0, 0));
        Check.badArgument("2: a bad argument goes first", () -> x.add(4, 0, 0, 1, 0, 0));
        Check.equal("2: 40 stay", x.rows(), 40);
        Check.equal("2: the base stays", x.base(), 1000000);
        x.withdraw(39);
        Check.badState("2: withdrawn rows were added too", () -> x.add(0, 0, 0, 1, 0, 0));
        Check.equal("2: 39 are left", x.rows(), 39);
    }

    private static void promise3Withdraw() {
        RateFitter x = new RateFitter();
        Check.noRow("3: without rows", () -> x.withdraw(0));
        x.add(0, 0, 0, 1, 0, 0);
        x.add(0, 0, 0, 1, 0, 0);
        x.add(0, 0, 0, 1, 0, 0);
        Check.noRow("3: -1", () -> x.withdraw(-1));
        Check.noRow("3: 3", () -> x.withdraw(3));
        Check.noRow("3: least", () -> x.withdraw(Integer.MIN_VALUE));
        Check.noRow("3: most", () -> x.withdraw(Integer.MAX_VALUE));
        Check.equal("3: 2 are left", x.withdraw(1), 2);
        Check.noRow("3: twice", () -> x.withdraw(1));
        Check.equal("3: 1 is left", x.withdraw(0), 1);
        Check.equal("3: 0 are left", x.withdraw(2), 0);
        Check.noRow("3: all are withdrawn", () -> x.withdraw(2));
    }

    private static void promise3WithdrawnRowsCountNoMore() {
        RateFitter x = new RateFitter();
        x.add(0, 0, 0, 10, 3, 1000);
        x.add(0, 1, 1, 30, 0, 9000);
        x.setRules(0, 10);
        x.setOld(1, 100);
        x.setFactor(0, 0, 20000);
        x.withdraw(1);
        Check.equal("3: base", x.base(), 1000000);
        Check.equal("3: told sum", x.toldSum(0, 0), 1000);
        Check.equal("3: fitted sum", x.fittedSum(0, 0), 2000);
        Check.equal("3: told sum of its own level", x.toldSum(1, 1), 0);
        Check.equal("3: fitted sum of its own level", x.fittedSum(1, 1), 0);
        Check.equal("3: worst", x.worst(0), 1000);
        Check.equal("3: lost", x.lost(), 0);
        Check.equal("3: rankedAt", x.rankedAt(0), 0);
        Check.noRow("3: rankedAt behind the last", () -> x.rankedAt(1));
        Check.noRow("3: fitted", () -> x.fitted(1));
        Check.noRow("3: premium", () -> x.premium(1));
        Check.noRow("3: capped", () -> x.capped(1));
        Check.noRow("3: setOld", () -> x.setOld(1, 5));
        Check.equal("3: pass", x.pass(0), 1);
        Check.equal("3: found by what is left", x.factor(0, 0), 10000);
    }

    private static void promise4SetOld() {
        RateFitter x = new RateFitter();
        Check.noRow("4: without rows", () -> x.setOld(0, 5));
        Check.noRow("4: the row goes first", () -> x.setOld(0, -2));
        x.add(0, 0, 0, 10, 1, 1000);
        Check.equal("4: none at first", x.setOld(0, 0), -1);
        Check.equal("4: 0 is one", x.setOld(0, 10000000), 0);
        Check.badArgument("4: too much", () -> x.setOld(0, 10000001));
        Check.badArgument("4: too little", () -> x.setOld(0, -2));
        Check.badArgument("4: most", () -> x.setOld(0, Integer.MAX_VALUE));
        Check.badArgument("4: least", () -> x.setOld(0, Integer.MIN_VALUE));
        Check.noRow("4: row -1", () -> x.setOld(-1, 5));
        Check.noRow("4: row 1", () -> x.setOld(1, 5));
        x.setRules(0, 0);
        Check.equal("4: a refused one changes nothing", x.capped(0), 10000000);
        Check.equal("4: before", x.setOld(0, -1), 10000000);
        Check.equal("4: it has none again", x.capped(0), 1000);
        Check.equal("4: none before", x.setOld(0, -1), -1);
        x.withdraw(0);
        Check.noRow("4: withdrawn", () -> x.setOld(0, -1));
        Check.noRow("4: withdrawn goes first", () -> x.setOld(0, -2));
    }

    private static void promise5SetRules() {
        RateFitter x = new RateFitter();
        Check.equal("5: 0 at first", x.setRules(1000, 1000), 0);
        Check.equal("5: before", x.setRules(3, 0), 1000);
        Check.badArgument("5: credibility -1", () -> x.setRules(-1, 5));
        Check.badArgument("5: credibility 1001", () -> x.setRules(1001, 5));
        Check.badArgument("5: cap -2", () -> x.setRules(4, -2));
        Check.badArgument("5: cap 1001", () -> x.setRules(4, 1001));
        Check.badArgument("5: least", () -> x.setRules(Integer.MIN_VALUE, Integer.MIN_VALUE));
        Check.badArgument("5: most", () -> x.setRules(Integer.MAX_VALUE, Integer.MAX_VALUE));
        x.add(0, 0, 0, 10, 1, 1000);
        x.setOld(0, 100);
        Check.equal("5: a refused cap changes nothing", x.capped(0), 100);
        Check.equal("5: nor does a refused credibility", x.setRules(0, -1), 3);
        Check.equal("5: no cap again", x.capped(0), 1000);
    }

    private static void promise6SetFactor() {
        RateFitter x = new RateFitter();
        x.add(0, 2, 3, 10, 1, 10000);
        for (int trait = 0; trait < LEVELS.length; trait++) {
            int last = LEVELS[trait] - 1;
            int t = trait;
            Check.equal("6: before", x.setFactor(t, last, 100), 10000);
            Check.equal("6: least", x.setFactor(t, last, 100000), 100);
            Check.equal("6: most", x.setFactor(t, last, 10000), 100000);
            Check.noRow("6: level behind the last", () -> x.setFactor(t, last + 1, 100));
            Check.noRow("6: level -1", () -> x.setFactor(t, -1, 100));
            Check.badArgument("6: 99", () -> x.setFactor(t, last, 99));
            Check.badArgument("6: 100001", () -> x.setFactor(t, last, 100001));
            Check.equal("6: a refused one changes nothing", x.factor(t, last), 10000);
        }
        Check.noRow("6: trait -1", () -> x.setFactor(-1, 0, 100));
        Check.noRow("6: trait 3", () -> x.setFactor(3, 0, 100));
        Check.noRow("6: the level goes first", () -> x.setFactor(1, 3, 99));
        Check.noRow("6: most", () -> x.setFactor(Integer.MAX_VALUE, Integer.MAX_VALUE, 0));
        Check.noRow("6: least", () -> x.setFactor(Integer.MIN_VALUE, Integer.MIN_VALUE, 0));
        x.setFactor(1, 2, 25000);
        Check.equal("6: fitted losses follow", x.fitted(0), 25000);
    }

    private static void promise11Rows() {
        RateFitter x = new RateFitter();
        Check.equal("11: none", x.rows(), 0);
        x.add(0, 0, 0, 1, 0, 0);
        x.add(0, 0, 0, 1, 0, 0);
        Check.equal("11: two", x.rows(), 2);
        x.withdraw(0);
        Check.equal("11: one", x.rows(), 1);
        x.add(0, 0, 0, 1, 0, 0);
        Check.equal("11: two again", x.rows(), 2);
    }
}
