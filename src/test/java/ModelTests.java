import java.util.Random;
import java.util.function.Supplier;

/** Long runs of calls, right and wrong ones, each answer compared with the Model's. */
public final class ModelTests {
    private static final int RUNS = 120;
    private static final int CALLS = 500;
    private static final Checks checks = new Checks("ModelTests");

    private ModelTests() {
    }

    public static void main(String[] args) {
        for (int run = 0; run < RUNS; run++) {
            run(run);
        }
        checks.end();
    }

    private static Object answer(Supplier<Object> call) {
        try {
            return call.get();
        } catch (RuntimeException e) {
            return e.getClass();
        }
    }

    private static void run(int run) {
        Random random = new Random(run);
        Quietpaper x = new Quietpaper();
        Model model = new Model();
        int wanted = run % 7;
        for (int k = 0; k < CALLS; k++) {
            // The people come early in most runs, so that the rest has somebody to ask of.
            int which = k < 2 * wanted ? 1 : random.nextInt(22);
            if (which == 1 && k >= 2 * wanted && random.nextInt(8) > 0) {
                which = 0;
            }
            if (which == 21 && random.nextInt(6) > 0) {
                which = 20;
            }
            call(run, which, random, x, model);
        }
        checks.due("run " + run + ": digest() at its end", x.digest(), model.digest());
    }

    /** A number from least to most, seldom one just outside, more seldom one far outside. */
    private static int some(Random random, int least, int most) {
        int[] outside = {least - 1, most + 1, least - 1, most + 1, Integer.MIN_VALUE, Integer.MAX_VALUE};
        int odd = random.nextInt(120);
        return odd < outside.length ? outside[odd] : least + random.nextInt(most - least + 1);
    }

    private static void call(int run, int which, Random random, Quietpaper x, Model m) {
        int last = Math.max(0, m.hall(0) - 1);
        int all = Math.max(1, (1 << m.hall(0)) - 1);
        int p = some(random, 0, last);
        int s = some(random, 0, 19);
        int v = random.nextInt(4) > 0 ? 1 + random.nextInt(80) : some(random, 1, 150);
        int set = some(random, 1, all);
        int work = some(random, 1, 12);
        int pieces = random.nextBoolean() ? some(random, 1, 4) : some(random, 1, 20);
        int pace = some(random, 0, 3);
        String sweet = "(" + p + ", " + work + ", " + pieces + ", " + pace + ")";
        switch (which) {
            case 0 -> {
                int to = Math.min(20, s + random.nextInt(6) - random.nextInt(2));
                int loud = random.nextInt(3) == 0 ? some(random, 0, 99) : 20 + random.nextInt(30);
                due(run, "music(" + s + ", " + to + ", " + loud + ")",
                        () -> x.music(s, to, loud), () -> m.music(s, to, loud));
            }
            case 1 -> {
                int row = some(random, 0, random.nextBoolean() ? 5 : 1);
                int seat = some(random, 0, random.nextBoolean() ? 9 : 2);
                int ear = some(random, 0, 9);
                due(run, "person(" + row + ", " + seat + ", " + ear + ")",
                        () -> x.person(row, seat, ear), () -> m.person(row, seat, ear));
            }
            case 2 -> {
                boolean is = random.nextBoolean();
                due(run, "paper(" + p + ", " + is + ")", () -> x.paper(p, is), () -> m.paper(p, is));
            }
            case 3 -> due(run, "throat(" + p + ", " + s + ")", () -> x.throat(p, s), () -> m.throat(p, s));
            case 4, 5 -> due(run, "noise(" + p + ", " + s + ", " + v + ")",
                    () -> x.noise(p, s, v), () -> m.noise(p, s, v));
            case 6 -> due(run, "unwrap" + sweet,
                    () -> x.unwrap(p, work, pieces, pace), () -> m.unwrap(p, work, pieces, pace));
            case 7 -> due(run, "cough(" + set + ")", () -> x.cough(set), () -> m.cough(set));
            case 8 -> {
                if (random.nextInt(4) == 0) {
                    due(run, "evening()", () -> x.evening(), () -> m.evening());
                }
            }
            case 9 -> due(run, "knock()", () -> x.knock(), () -> m.knock());
            case 10 -> {
                int what = some(random, 0, 4);
                due(run, "ofSecond(" + s + ", " + what + ")",
                        () -> x.ofSecond(s, what), () -> m.ofSecond(s, what));
            }
            case 11 -> {
                int what = some(random, 0, 7);
                due(run, "ofPerson(" + p + ", " + what + ")",
                        () -> x.ofPerson(p, what), () -> m.ofPerson(p, what));
            }
            case 12 -> due(run, "minds(" + p + ", " + s + ")", () -> x.minds(p, s), () -> m.minds(p, s));
            case 13 -> {
                int row = some(random, 0, 5);
                due(run, "refund(" + row + ")", () -> x.refund(row), () -> m.refund(row));
            }
            case 14 -> {
                int what = some(random, 0, 7);
                due(run, "hall(" + what + ")", () -> x.hall(what), () -> m.hall(what));
            }
            case 15 -> due(run, "would(" + p + ", " + s + ", " + v + ")",
                    () -> x.would(p, s, v), () -> m.would(p, s, v));
            case 16 -> due(run, "cost" + sweet,
                    () -> x.cost(p, work, pieces, pace), () -> m.best(p, work, pieces, pace).cost());
            case 17 -> due(run, "plan" + sweet,
                    () -> x.plan(p, work, pieces, pace), () -> m.best(p, work, pieces, pace).plan());
            case 18 -> due(run, "loudest(" + p + ", " + work + ", " + pace + ")",
                    () -> x.loudest(p, work, pace), () -> m.loudest(p, work, pace));
            case 19 -> {
                int what = some(random, 0, 2);
                due(run, "coughing(" + set + ", " + what + ")",
                        () -> x.coughing(set, what), () -> m.coughing(set, what));
            }
            case 20 -> {
                int heads = random.nextInt(3) == 0 ? 0 : set;
                due(run, "suspects(" + s + ", " + heads + ", " + v + ")",
                        () -> x.suspects(s, heads, v), () -> m.suspects(s, heads, v));
            }
            default -> {
                due(run, "isSound()", () -> x.isSound(), () -> m.isSound());
                due(run, "digest()", () -> x.digest(), () -> m.digest());
            }
        }
    }

    private static void due(int run, String call, Supplier<Object> got, Supplier<Object> want) {
        checks.due("run " + run + ": " + call, answer(got), answer(want));
    }
}
