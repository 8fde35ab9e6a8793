import java.util.Random;

/** Long runs of mixed calls, right and wrong ones, each answer compared with that of the model. */
public final class ModelTest {
    private static final int RUNS = 400;
    private static final int CALLS = 512;
    private static final int[] LEVELS = {4, 3, 4};
    private static final int[] CAPS = {-1, 0, 1, 10, 50, 99, 100, 101, 250, 1000};

    private final Random random;
    private final RateFitter fitter = new RateFitter();
    private final Model model = new Model();
    private final boolean small;
    private String call = "";

    private ModelTest(int seed) {
        random = new Random(seed);
        small = seed % 2 == 0;
    }

    public static void main(String[] args) {
        for (int run = 0; run < RUNS; run++) {
            ModelTest test = new ModelTest(run);
            for (int calls = 0; calls < CALLS; calls++) {
                String got = test.step();
                Check.same("run " + run + ", call " + calls + ": " + test.call, got.split("/")[0], got.split("/")[1]);
            }
        }
        Check.end();
    }

    private String both(String name, Check.Call got, Check.Call due) {
        call = name;
        return Check.outcome(got) + "/" + Check.outcome(due);
    }

    private int upTo(int most) {
        return random.nextInt(most + 1);
    }

    // mostly valid, at times just outside
    private int near(int most) {
        return random.nextInt(12) == 0 ? (random.nextBoolean() ? -1 : most + 1) : upTo(most);
    }

    private int anyRow() {
        return near(Math.max(model.addedRows() - 1, 0));
    }

    private String step() {
        int kind = random.nextInt(32);
        if (kind < 4) {
            return add();
        }
        if (kind < 12) {
            return settings(kind);
        }
        if (kind < 18) {
            return fitting(kind);
        }
        return answers(kind);
    }

    private String add() {
        int[] a = {near(3), near(2), near(3), 1 + upTo(small ? 9 : 999), upTo(small ? 3 : 1000), upTo(small ? 50 : 1000000)};
        boolean good = a[0] >= 0 && a[0] <= 3 && a[1] >= 0 && a[1] <= 2 && a[2] >= 0 && a[2] <= 3;
        boolean full = model.addedRows() == 40;
        return both("add", () -> fitter.add(a[0], a[1], a[2], a[3], a[4], a[5]), () -> {
            refuse(!good, new IllegalArgumentException());
            refuse(full, new IllegalStateException());
            return model.add(a[0], a[1], a[2], a[3], a[4], a[5]);
        });
    }

    private static void refuse(boolean bad, RuntimeException exception) {
        if (bad) {
            throw exception;
        }
    }

    private void needRow(int row) {
        refuse(!model.hasRow(row), new IndexOutOfBoundsException());
    }

    private static void needTrait(int trait) {
        refuse(trait < 0 || trait >= LEVELS.length, new IndexOutOfBoundsException());
    }

    private static void needLevel(int trait, int level) {
        needTrait(trait);
        refuse(level < 0 || level >= LEVELS[trait], new IndexOutOfBoundsException());
    }

    private String settings(int kind) {
        int row = anyRow();
        if (kind == 4 && random.nextInt(3) == 0) {
            return both("withdraw " + row, () -> fitter.withdraw(row), () -> {
                needRow(row);
                return model.withdraw(row);
            });
        }
        if (kind < 8) {
            int premium = random.nextInt(20) == 0 ? 10000001 : upTo(small ? 60 : 10000000) - 1;
            return both("setOld " + row + " " + premium, () -> fitter.setOld(row, premium), () -> {
                needRow(row);
                refuse(premium > 10000000, new IllegalArgumentException());
                return model.setOld(row, premium);
            });
        }
        if (kind < 9) {
            int credibility = random.nextInt(3) == 0 ? 0 : near(random.nextBoolean() ? 1000 : 20);
            int cap = CAPS[upTo(CAPS.length - 1)];
            return both("setRules " + credibility + " " + cap, () -> fitter.setRules(credibility, cap), () -> {
                refuse(credibility < 0 || credibility > 1000, new IllegalArgumentException());
                return model.setRules(credibility, cap);
            });
        }
        return setFactor();
    }

    private String setFactor() {
        int trait = near(2);
        int level = near(3);
        int factor = random.nextInt(10) == 0 ? 99 + upTo(2) : random.nextInt(10) == 0 ? 99999 + upTo(2) : 100 + upTo(30000);
        return both("setFactor " + trait + " " + level + " " + factor, () -> fitter.setFactor(trait, level, factor), () -> {
            needLevel(trait, level);
            refuse(factor < 100 || factor > 100000, new IllegalArgumentException());
            return model.setFactor(trait, level, factor);
        });
    }

    private String fitting(int kind) {
        int trait = near(2);
        if (kind < 14) {
            return both("pass " + trait, () -> fitter.pass(trait), () -> {
                needTrait(trait);
                return model.pass(trait);
            });
        }
        if (kind == 14) {
            return random.nextInt(4) > 0 ? both("rows", fitter::rows, model::rows) : both("settle", fitter::settle, model::settle);
        }
        if (kind < 17) {
            return both("smooth " + trait, () -> fitter.smooth(trait), () -> {
                needTrait(trait);
                return model.smooth(trait);
            });
        }
        return both("spread", fitter::spread, model::spread);
    }

    private String answers(int kind) {
        int row = anyRow();
        if (kind < 20) {
            return rowAnswer("fitted " + row, row, () -> fitter.fitted(row), () -> model.fitted(row));
        }
        if (kind < 22) {
            return rowAnswer("premium " + row, row, () -> fitter.premium(row), () -> model.premium(row));
        }
        if (kind < 24) {
            return rowAnswer("capped " + row, row, () -> fitter.capped(row), () -> model.capped(row));
        }
        if (kind < 26) {
            return both("rankedAt " + row, () -> fitter.rankedAt(row), () -> {
                refuse(row < 0 || row >= model.rows(), new IndexOutOfBoundsException());
                return model.rankedAt(row);
            });
        }
        if (kind == 26) {
            return both("base", fitter::base, model::base);
        }
        if (kind == 27) {
            return both("lost", fitter::lost, model::lost);
        }
        return levelAnswer(kind);
    }

    private String rowAnswer(String name, int row, Check.Call got, Check.Call due) {
        return both(name, got, () -> {
            needRow(row);
            return due.answer();
        });
    }

    private String levelAnswer(int kind) {
        int trait = near(2);
        int level = near(3);
        if (kind == 28) {
            return both("worst " + trait, () -> fitter.worst(trait), () -> {
                needTrait(trait);
                return model.worst(trait);
            });
        }
        Check.Call got = kind == 29 ? () -> fitter.toldSum(trait, level)
                : kind == 30 ? () -> fitter.fittedSum(trait, level) : () -> fitter.factor(trait, level);
        return both("level " + trait + " " + level, got, () -> {
            needLevel(trait, level);
            return kind == 29 ? model.toldSum(trait, level)
                    : kind == 30 ? model.fittedSum(trait, level) : model.factor(trait, level);
        });
    }
}
