import java.util.Random;

/** BEST PLANS compared with what trying every PLAN finds. */
public final class BruteTests {
    private static final Checks checks = new Checks("BruteTests");

    private BruteTests() {
    }

    public static void main(String[] args) {
        for (int seed = 0; seed < 12; seed++) {
            Random random = new Random(seed);
            onePace(seed, hall(random, 20), random);
            allPaces(seed, hall(random, 10), random);
        }
        checks.end();
    }

    /** A hall in which only so many SECONDS are loud; at a still one each crackle costs much. */
    private static Quietpaper hall(Random random, int loud) {
        Quietpaper x = new Quietpaper();
        int people = 2 + random.nextInt(2);
        for (int seat = 0; seat < people; seat++) {
            x.person(0, seat, random.nextInt(10));
        }
        for (int second = 0; second < 20; second++) {
            int loudness = loud == 20 ? 15 + random.nextInt(45) : 45 + random.nextInt(15);
            x.music(second, second, second < loud ? loudness : 0);
        }
        return x;
    }

    private static int crackle(Quietpaper x, int second, int pace) {
        return x.would(0, second, 12 * pace + 20);
    }

    private static int piecesIn(int seconds) {
        return Integer.bitCount(seconds & ~(seconds << 1));
    }

    /** A PLAN at one PACE is a set of SECONDS, the first of them being the highest bit. */
    private static void onePace(int seed, Quietpaper x, Random random) {
        int pace = 1 + random.nextInt(3);
        int[] costs = new int[1 << 20];
        for (int bit = 0; bit < 20; bit++) {
            costs[1 << bit] = crackle(x, 19 - bit, pace);
        }
        for (int set = 1; set < costs.length; set++) {
            int lowest = set & -set;
            costs[set] = costs[set - lowest] + costs[lowest];
        }
        for (int k = 0; k < 6; k++) {
            int work = 1 + random.nextInt(12);
            int pieces = k == 0 ? 20 : 1 + random.nextInt(4);
            int best = -1;
            for (int set = 1; set < costs.length; set++) {
                boolean does = Integer.bitCount(set) * pace >= work && piecesIn(set) <= pieces;
                if (does && (best < 0 || costs[set] < costs[best])) {
                    best = set;
                }
            }
            StringBuilder plan = new StringBuilder();
            for (int bit = 19; bit >= 0; bit--) {
                plan.append((best >> bit) % 2 == 1 ? (char) ('0' + pace) : '.');
            }
            String sweet = "(0, " + work + ", " + pieces + ", " + pace + ") of " + seed;
            checks.due("plan" + sweet, x.plan(0, work, pieces, pace), plan.toString());
            checks.due("cost" + sweet, x.cost(0, work, pieces, pace), costs[best]);
        }
    }

    /** Ten loud SECONDS: no PLAN for so small a WORK crackles at the others, which cost more than all of it. */
    private static void allPaces(int seed, Quietpaper x, Random random) {
        int[] costs = new int[40];
        for (int k = 0; k < 40; k++) {
            costs[k] = k % 4 == 0 ? 0 : crackle(x, 9 - k / 4, k % 4);
        }
        for (int work = 1; work <= 3; work++) {
            int pieces = 1 + random.nextInt(2);
            int best = -1;
            int least = Integer.MAX_VALUE;
            for (int code = 0; code < 1 << 20; code++) {
                int done = 0;
                int cost = 0;
                int begun = 0;
                for (int k = 0; k < 10; k++) {
                    int pace = code >> 2 * k & 3;
                    done += pace;
                    cost += costs[4 * k + pace];
                    begun += pace > 0 && (k == 9 || (code >> 2 * k + 2 & 3) == 0) ? 1 : 0;
                }
                if (done >= work && begun <= pieces && cost < least) {
                    best = code;
                    least = cost;
                }
            }
            StringBuilder plan = new StringBuilder();
            for (int k = 9; k >= 0; k--) {
                plan.append(".123".charAt(best >> 2 * k & 3));
            }
            plan.append("..........");
            checks.holds("the still SECONDS cost more", least < crackle(x, 10, 1));
            String sweet = "(0, " + work + ", " + pieces + ", 0) of " + seed;
            checks.due("plan" + sweet, x.plan(0, work, pieces, 0), plan.toString());
            checks.due("cost" + sweet, x.cost(0, work, pieces, 0), least);
        }
    }
}
