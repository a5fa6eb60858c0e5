import java.util.ArrayList;
import java.util.HashMap;
import java.util.List;
import java.util.Map;

/** The document told once more, as slowly and plainly as can be: what ModelTests compares the class with. */
final class Model {
    record Noise(int maker, int second, int volume) {
    }

    record Best(int cost, String plan) {
        Best with(int cost, char pace) {
            return new Best(this.cost + cost, pace + plan);
        }

        boolean isBetterThan(Best other) {
            return other == null || cost < other.cost || cost == other.cost && plan.compareTo(other.plan) < 0;
        }
    }

    private static final class Person {
        int row;
        int seat;
        int ear;
        boolean isSoft = false;
        int last = 19;
    }

    private final int[] loudness = new int[20];
    private final List<Person> people = new ArrayList<>();
    private final List<Noise> noises = new ArrayList<>();
    private int refused = 0;

    Model() {
        java.util.Arrays.fill(loudness, 20);
    }

    private static void index(boolean is) {
        if (!is) {
            throw new IndexOutOfBoundsException();
        }
    }

    private static void argument(boolean is) {
        if (!is) {
            throw new IllegalArgumentException();
        }
    }

    private static void state(boolean is) {
        if (!is) {
            throw new IllegalStateException();
        }
    }

    private void somebody(int person) {
        index(0 <= person && person < people.size());
    }

    private boolean isSet(int set) {
        return 0 <= set && set < Math.pow(2, people.size());
    }

    private int mind(Noise n, int hearer) {
        if (n.maker == hearer) {
            return 0;
        }
        Person a = people.get(n.maker);
        Person b = people.get(hearer);
        int far = 2 * Math.abs(a.row - b.row) + Math.abs(a.seat - b.seat);
        return Math.max(0, n.volume - 4 * far - loudness[n.second] + b.ear);
    }

    private int sumOfMinds(Noise n) {
        int sum = 0;
        for (int p = 0; p < people.size(); p++) {
            sum += mind(n, p);
        }
        return sum;
    }

    private int minded(List<Noise> all, int person, int second) {
        int most = 0;
        for (Noise n : all) {
            if (n.second == second) {
                most = Math.max(most, mind(n, person));
            }
        }
        return most;
    }

    private int mindedByAll(List<Noise> all, int second) {
        int sum = 0;
        for (int p = 0; p < people.size(); p++) {
            sum += minded(all, p, second);
        }
        return sum;
    }

    private int heads(List<Noise> all, int second) {
        int set = 0;
        for (int p = 0; p < people.size(); p++) {
            if (minded(all, p, second) >= 5) {
                set += 1 << p;
            }
        }
        return set;
    }

    private int score(int person) {
        int sum = 0;
        for (int s = 0; s < 20; s++) {
            sum += minded(noises, person, s);
        }
        return sum;
    }

    int music(int from, int to, int loud) {
        index(0 <= from && from <= 19);
        index(from <= to && to <= 19);
        argument(0 <= loud && loud <= 99);
        int sum = 0;
        for (int s = 0; s < 20; s++) {
            if (from <= s && s <= to) {
                loudness[s] = loud;
            }
            sum += loudness[s];
        }
        return sum;
    }

    int person(int row, int seat, int ear) {
        argument(0 <= row && row <= 5 && 0 <= seat && seat <= 9 && 0 <= ear && ear <= 9);
        state(people.size() < 6);
        for (Person p : people) {
            state(p.row != row || p.seat != seat);
        }
        Person p = new Person();
        p.row = row;
        p.seat = seat;
        p.ear = ear;
        people.add(p);
        return people.size() - 1;
    }

    boolean paper(int person, boolean isSoft) {
        somebody(person);
        boolean was = people.get(person).isSoft;
        people.get(person).isSoft = isSoft;
        return was;
    }

    int throat(int person, int last) {
        somebody(person);
        argument(0 <= last && last <= 19);
        int was = people.get(person).last;
        people.get(person).last = last;
        return was;
    }

    int noise(int person, int second, int volume) {
        somebody(person);
        index(0 <= second && second <= 19);
        argument(1 <= volume && volume <= 150);
        state(noises.size() < 60);
        Noise n = new Noise(person, second, volume);
        noises.add(n);
        int set = 0;
        for (int p = 0; p < people.size(); p++) {
            set += mind(n, p) > 0 ? 1 << p : 0;
        }
        return set;
    }

    private int volume(int person, int pace) {
        return people.get(person).isSoft ? 7 * pace + 12 : 12 * pace + 20;
    }

    Best best(int person, int work, int pieces, int pace) {
        somebody(person);
        argument(1 <= work && work <= 12 && 1 <= pieces && pieces <= 20 && 0 <= pace && pace <= 3);
        return bestFrom(new HashMap<>(), new int[] {person, pace, 0, work, pieces, 0});
    }

    /** Of what is left at a SECOND: q is person, PACE, SECOND, WORK left, PIECES left, the PACE before. */
    private Best bestFrom(Map<String, Best> known, int[] q) {
        if (q[2] == 20) {
            return q[3] <= 0 ? new Best(0, "") : null;
        }
        String key = q[2] + " " + q[3] + " " + q[4] + " " + (q[5] > 0);
        if (known.containsKey(key)) {
            return known.get(key);
        }
        Best best = null;
        for (int k = 3; k >= 0; k--) {
            int begun = k > 0 && q[5] == 0 ? 1 : 0;
            if (k > 0 && q[1] > 0 && k != q[1] || q[4] < begun) {
                continue;
            }
            Best rest = bestFrom(known, new int[] {q[0], q[1], q[2] + 1, q[3] - k, q[4] - begun, k});
            if (rest != null) {
                int cost = k == 0 ? 0 : sumOfMinds(new Noise(q[0], q[2], volume(q[0], k)));
                Best here = rest.with(cost, ".123".charAt(k));
                best = here.isBetterThan(best) ? here : best;
            }
        }
        known.put(key, best);
        return best;
    }

    int unwrap(int person, int work, int pieces, int pace) {
        Best best = best(person, work, pieces, pace);
        state(noises.size() + best.plan.replace(".", "").length() <= 60);
        for (int s = 0; s < 20; s++) {
            int k = ".123".indexOf(best.plan.charAt(s));
            if (k > 0) {
                noises.add(new Noise(person, s, volume(person, k)));
            }
        }
        return best.cost;
    }

    private List<Noise> coughs(int set, int second) {
        List<Noise> all = new ArrayList<>();
        for (int p = 0; p < people.size(); p++) {
            if ((set >> p) % 2 == 1) {
                all.add(new Noise(p, second, 60));
            }
        }
        return all;
    }

    private int bestSecond(int set) {
        int best = -1;
        for (int s = 19; s >= 0; s--) {
            boolean canAll = true;
            for (Noise n : coughs(set, s)) {
                canAll &= s <= people.get(n.maker).last;
            }
            if (canAll && (best < 0 || mindedByAll(coughs(set, s), s) <= mindedByAll(coughs(set, best), best))) {
                best = s;
            }
        }
        return best;
    }

    int cough(int set) {
        argument(isSet(set) && set > 0);
        int second = bestSecond(set);
        List<Noise> all = coughs(set, second);
        state(noises.size() + all.size() <= 60);
        noises.addAll(all);
        return second;
    }

    int evening() {
        int were = noises.size();
        noises.clear();
        return were;
    }

    int knock() {
        return ++refused;
    }

    int ofSecond(int second, int what) {
        index(0 <= second && second <= 19);
        argument(0 <= what && what <= 4);
        int count = 0;
        int makers = 0;
        for (Noise n : noises) {
            if (n.second == second) {
                count++;
                makers |= 1 << n.maker;
            }
        }
        int[] all = {loudness[second], count, makers, heads(noises, second), mindedByAll(noises, second)};
        return all[what];
    }

    int ofPerson(int person, int what) {
        somebody(person);
        argument(0 <= what && what <= 7);
        Person p = people.get(person);
        int count = 0;
        int sum = 0;
        for (Noise n : noises) {
            if (n.maker == person) {
                count++;
                sum += sumOfMinds(n);
            }
        }
        int[] all = {p.row, p.seat, p.ear, p.isSoft ? 1 : 0, p.last, score(person), count, sum};
        return all[what];
    }

    int minds(int person, int second) {
        somebody(person);
        index(0 <= second && second <= 19);
        return minded(noises, person, second);
    }

    int refund(int row) {
        index(0 <= row && row <= 5);
        int sum = 0;
        for (int p = 0; p < people.size(); p++) {
            sum += people.get(p).row == row ? score(p) : 0;
        }
        return sum / 10 + (sum % 10 > 0 ? 1 : 0);
    }

    int hall(int what) {
        argument(0 <= what && what <= 7);
        int[] all = {people.size(), noises.size(), 0, 0, 0, 0, 0, refused};
        for (int p = 0; p < people.size(); p++) {
            all[2] += score(p);
            all[3] = Math.max(all[3], score(p));
        }
        all[4] = 19;
        for (int s = 19; s >= 0; s--) {
            all[6] += heads(noises, s) > 0 ? 1 : 0;
            all[4] = loudness[s] >= loudness[all[4]] ? s : all[4];
        }
        for (int row = 0; row < 6; row++) {
            all[5] += refund(row);
        }
        return all[what];
    }

    int would(int person, int second, int volume) {
        somebody(person);
        index(0 <= second && second <= 19);
        argument(1 <= volume && volume <= 150);
        return sumOfMinds(new Noise(person, second, volume));
    }

    int loudest(int person, int work, int pace) {
        somebody(person);
        argument(1 <= work && work <= 12 && 1 <= pace && pace <= 3);
        boolean[] taken = new boolean[20];
        int sum = 0;
        for (int left = work; left > 0; left -= pace) {
            int most = -1;
            for (int s = 0; s < 20; s++) {
                if (!taken[s] && (most < 0 || loudness[s] > loudness[most])) {
                    most = s;
                }
            }
            taken[most] = true;
            sum += sumOfMinds(new Noise(person, most, volume(person, pace)));
        }
        return sum;
    }

    int coughing(int set, int what) {
        argument(isSet(set) && set > 0 && 0 <= what && what <= 2);
        int second = bestSecond(set);
        int apart = 0;
        for (Noise n : coughs(set, 0)) {
            apart += sumOfMinds(new Noise(n.maker, bestSecond(1 << n.maker), 60));
        }
        int[] all = {second, mindedByAll(coughs(set, second), second), apart};
        return all[what];
    }

    int suspects(int second, int heads, int volume) {
        index(0 <= second && second <= 19);
        argument(isSet(heads) && 1 <= volume && volume <= 150);
        int set = 0;
        for (int p = 0; p < people.size(); p++) {
            boolean isOwn = (heads >> p) % 2 == 1;
            if (!isOwn && heads(List.of(new Noise(p, second, volume)), second) == heads) {
                set += 1 << p;
            }
        }
        return set;
    }

    boolean isSound() {
        int sum = 0;
        for (int s = 0; s < 20; s++) {
            sum += mindedByAll(noises, s);
            for (int p = 0; p < people.size(); p++) {
                for (int volume = 1; volume <= loudness[s] - 9; volume++) {
                    sum += would(p, s, volume) == 0 ? 0 : 1_000_000;
                }
            }
        }
        boolean is = sum == hall(2);
        for (int p = 0; p < people.size(); p++) {
            is &= best(p, 5, 20, 2).cost == loudest(p, 5, 2) && best(p, 5, 2, 2).cost >= loudest(p, 5, 2);
        }
        return is;
    }

    long digest() {
        List<Integer> values = new ArrayList<>();
        for (int what = 0; what < 8; what++) {
            values.add(hall(what));
        }
        for (int s = 0; s < 20; s++) {
            for (int what = 0; what < 5; what++) {
                values.add(ofSecond(s, what));
            }
        }
        for (int p = 0; p < people.size(); p++) {
            for (int what = 0; what < 8; what++) {
                values.add(ofPerson(p, what));
            }
            values.add(best(p, 7, 2, 0).cost);
            values.add(best(p, 5, 4, 2).cost);
            values.add(loudest(p, 5, 2));
            for (int what = 0; what < 3; what++) {
                values.add(coughing(1 << p, what));
            }
        }
        for (int row = 0; row < 6; row++) {
            values.add(refund(row));
        }
        for (int what = 0; what < 3 && !people.isEmpty(); what++) {
            values.add(coughing((1 << people.size()) - 1, what));
        }
        values.add(isSound() ? 1 : 0);
        long d = 9007;
        for (int v : values) {
            d = d * 31 + v;
        }
        return d;
    }
}
