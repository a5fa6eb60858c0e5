import java.util.function.Consumer;

/** Promises 1 to 10: a test for each sentence that names a boundary. The answers are worked out by hand. */
public final class BoundaryOfDeedsTests {
    private static final Class<IndexOutOfBoundsException> INDEX = IndexOutOfBoundsException.class;
    private static final Class<IllegalArgumentException> ARGUMENT = IllegalArgumentException.class;
    private static final Class<IllegalStateException> STATE = IllegalStateException.class;
    private static final int MIN = Integer.MIN_VALUE;
    private static final int MAX = Integer.MAX_VALUE;
    private static final Checks checks = new Checks("BoundaryOfDeedsTests");

    private BoundaryOfDeedsTests() {
    }

    public static void main(String[] args) {
        new1IsEmpty();
        new1HasSecondsOfLoudness20();
        new1IsItsOwn();
        music2FirstAndLastSecond();
        music2LeastAndGreatestLoudness();
        music2Refused();
        person3LeastAndGreatest();
        person3AsManyAsCanBe();
        person3SharedSeats();
        person3Refused();
        paper4();
        paper4Refused();
        throat5();
        throat5Refused();
        noise6LeastAndGreatestVolume();
        noise6MindAboveZero();
        noise6SetOfNobodyAndOfAll();
        noise6AsManyAsCanBe();
        noise6Refused();
        unwrap7LeastAndGreatest();
        unwrap7FirstAndLastSecond();
        unwrap7AsManyAsCanBe();
        unwrap7Refused();
        cough8SetOfOneAndOfAll();
        cough8LastSecond();
        cough8AsManyAsCanBe();
        cough8Refused();
        evening9();
        knock10();
        checks.end();
    }

    private static void due(String call, Object got, Object want) {
        checks.due(call, got, want);
    }

    /** Asks it of a hall in which something of everything is, and of one that has as many NOISES as can be. */
    private static void refused(String call, Class<? extends RuntimeException> kind, Consumer<Quietpaper> run) {
        checks.refused(call, kind, Halls::busy, run);
        checks.refused(call + " of a full hall", kind, Halls::full, run);
    }

    // ---- promise 1

    private static void new1IsEmpty() {
        Quietpaper x = Halls.empty();
        for (int what = 0; what < 8; what++) {
            due("1: hall " + what, x.hall(what), 0);
        }
        for (int row = 0; row < 6; row++) {
            due("1: refund " + row, x.refund(row), 0);
        }
        due("1: no NOISES", x.evening(), 0);
        due("1: nobody to suspect", x.suspects(0, 0, 150), 0);
        due("1: sound", x.isSound(), true);
        for (int p = -1; p <= 6; p++) {
            int person = p;
            checks.refused("1: paper of " + p, INDEX, Halls::empty, y -> y.paper(person, true));
            checks.refused("1: ROW of " + p, INDEX, Halls::empty, y -> y.ofPerson(person, 0));
        }
        checks.refused("1: a cough of nobody", ARGUMENT, Halls::empty, y -> y.cough(0));
        checks.refused("1: a cough of the first", ARGUMENT, Halls::empty, y -> y.cough(1));
        due("1: the first person gets the number", x.person(0, 0, 0), 0);
    }

    private static void new1HasSecondsOfLoudness20() {
        Quietpaper x = Halls.empty();
        for (int second = 0; second < 20; second++) {
            due("1: LOUDNESS of " + second, x.ofSecond(second, 0), 20);
            for (int what = 1; what < 5; what++) {
                due("1: " + what + " of " + second, x.ofSecond(second, what), 0);
            }
        }
        due("1: 19 are 20, one is 21", x.music(19, 19, 21), 401);
    }

    private static void new1IsItsOwn() {
        Quietpaper x = Halls.empty();
        Quietpaper y = Halls.full();
        due("1: nobody comes from another hall", x.hall(0), 0);
        due("1: no knock from another hall", x.knock(), 1);
        due("1: the other keeps its own", y.knock(), 3);
    }

    // ---- promise 2

    private static void music2FirstAndLastSecond() {
        Quietpaper x = Halls.empty();
        due("2: the first SECOND", x.music(0, 0, 30), 410);
        due("2: the last SECOND", x.music(19, 19, 50), 440);
        due("2: all but these", x.music(1, 18, 1), 98);
        due("2: 0 stays", x.ofSecond(0, 0), 30);
        due("2: 19 stays", x.ofSecond(19, 0), 50);
        due("2: the first two", x.music(0, 1, 2), 71);
        due("2: the last two", x.music(18, 19, 2), 24);
        due("2: from is to", x.music(7, 7, 3), 26);
        due("2: before", x.ofSecond(6, 0), 1);
        due("2: behind", x.ofSecond(8, 0), 1);
        due("2: all", x.music(0, 19, 7), 140);
    }

    private static void music2LeastAndGreatestLoudness() {
        Quietpaper x = Halls.two();
        due("2: as loud as can be", x.music(0, 19, 99), 1980);
        due("2: LOUDNESS 99", x.ofSecond(19, 0), 99);
        due("2: MIND at 99", x.would(0, 19, 104), 1);
        due("2: as still as can be", x.music(0, 19, 0), 0);
        due("2: LOUDNESS 0", x.ofSecond(0, 0), 0);
        due("2: MIND at 0", x.would(0, 0, 5), 1);
        due("2: one below 99", x.music(0, 0, 98), 98);
        due("2: one above 0", x.music(1, 1, 1), 99);
    }

    private static void music2Refused() {
        int[] noSeconds = {-1, 20, MIN, MAX};
        for (int no : noSeconds) {
            refused("2: from " + no, INDEX, x -> x.music(no, 19, 5));
            refused("2: to " + no, INDEX, x -> x.music(0, no, 5));
            refused("2: from and to " + no, INDEX, x -> x.music(no, no, 5));
            refused("2: from " + no + " before LOUDNESS 100", INDEX, x -> x.music(no, 19, 100));
            refused("2: to " + no + " before LOUDNESS -1", INDEX, x -> x.music(0, no, -1));
        }
        refused("2: to one below from", INDEX, x -> x.music(1, 0, 5));
        refused("2: to 18 from 19 on", INDEX, x -> x.music(19, 18, 5));
        refused("2: to 0 from 19 on", INDEX, x -> x.music(19, 0, 5));
        refused("2: to below from before LOUDNESS 100", INDEX, x -> x.music(1, 0, 100));
        int[] noLoudnesses = {-1, 100, MIN, MAX};
        for (int no : noLoudnesses) {
            refused("2: LOUDNESS " + no, ARGUMENT, x -> x.music(0, 19, no));
            checks.refused("2: LOUDNESS " + no + " of an empty hall", ARGUMENT, Halls::empty, x -> x.music(0, 0, no));
        }
        checks.refused("2: from 20 in an empty hall", INDEX, Halls::empty, x -> x.music(20, 20, 5));
    }

    // ---- promise 3

    private static void person3LeastAndGreatest() {
        Quietpaper x = Halls.empty();
        due("3: the least", x.person(0, 0, 0), 0);
        due("3: the greatest", x.person(5, 9, 9), 1);
        int[][] want = {{0, 0, 0, 0, 19, 0, 0, 0}, {5, 9, 9, 0, 19, 0, 0, 0}};
        for (int k = 0; k < 16; k++) {
            due("3: " + k % 8 + " of " + k / 8, x.ofPerson(k / 8, k % 8), want[k / 8][k % 8]);
        }
        // FAR is 2 * 5 + 9.
        due("3: as FAR as can be", x.would(0, 0, 88), 88 - 76 - 20 + 9);
        due("3: and back", x.would(1, 0, 97), 97 - 76 - 20);
        due("3: the last SEAT of the first ROW", x.person(0, 9, 0), 2);
        due("3: the first SEAT of the last ROW", x.person(5, 0, 0), 3);
    }

    private static void person3AsManyAsCanBe() {
        Quietpaper x = Halls.empty();
        for (int k = 0; k < 6; k++) {
            due("3: number", x.person(k, k, k), k);
            due("3: so many", x.hall(0), k + 1);
        }
        checks.refused("3: a seventh", STATE, Halls::six, y -> y.person(1, 1, 1));
        checks.refused("3: a seventh on a SEAT that is taken", STATE, Halls::six, y -> y.person(0, 0, 0));
        Quietpaper late = Halls.twoWith(60);
        due("3: with 60 NOISES", late.person(0, 2, 9), 2);
        due("3: who comes later minds what fell", late.minds(2, 0), 100 - 8 - 20 + 9);
    }

    private static void person3SharedSeats() {
        checks.refused("3: the SEAT of the first", STATE, Halls::two, x -> x.person(0, 0, 9));
        checks.refused("3: the SEAT of the last", STATE, Halls::two, x -> x.person(0, 1, 9));
        Quietpaper x = Halls.six();
        Quietpaper y = Halls.empty();
        for (int k = 0; k < 5; k++) {
            y.person(x.ofPerson(k, 0), x.ofPerson(k, 1), 0);
            int person = k;
            checks.refused("3: the SEAT of " + k, STATE, () -> fiveOfSix(),
                    z -> z.person(z.ofPerson(person, 0), z.ofPerson(person, 1), 0));
        }
        due("3: the SEAT of the sixth is free", y.person(3, 5, 0), 5);
        Quietpaper z = Halls.two();
        due("3: the same SEAT of another ROW", z.person(1, 0, 0), 2);
        due("3: another SEAT of the same ROW", z.person(0, 2, 0), 3);
        try {
            z.person(0, 0, 0);
        } catch (IllegalStateException e) {
            due("3: who was refused takes no number", z.person(5, 9, 0), 4);
        }
        due("3: five are there", z.hall(0), 5);
    }

    private static Quietpaper fiveOfSix() {
        Quietpaper x = Halls.empty();
        Quietpaper six = Halls.six();
        for (int k = 0; k < 5; k++) {
            x.person(six.ofPerson(k, 0), six.ofPerson(k, 1), six.ofPerson(k, 2));
        }
        return x;
    }

    private static void person3Refused() {
        int[][] wrong = {{-1, 1, 1}, {6, 1, 1}, {MIN, 1, 1}, {MAX, 1, 1}, {1, -1, 1}, {1, 10, 1}, {1, MIN, 1},
            {1, MAX, 1}, {1, 1, -1}, {1, 1, 10}, {1, 1, MIN}, {1, 1, MAX}, {0, 0, 10}, {0, 0, -1}};
        for (int[] w : wrong) {
            String call = "3: person(" + w[0] + ", " + w[1] + ", " + w[2] + ")";
            checks.refused(call, ARGUMENT, Halls::two, x -> x.person(w[0], w[1], w[2]));
            checks.refused(call + " of an empty hall", ARGUMENT, Halls::empty, x -> x.person(w[0], w[1], w[2]));
            refused(call + " before that there are 6", ARGUMENT, x -> x.person(w[0], w[1], w[2]));
        }
        refused("3: a seventh", STATE, x -> x.person(1, 1, 1));
    }

    // ---- promise 4

    private static void paper4() {
        Quietpaper x = Halls.six();
        for (int person = 0; person < 6; person += 5) {
            due("4: not SOFT at first", x.paper(person, false), false);
            due("4: still not", x.paper(person, true), false);
            due("4: SOFT", x.paper(person, true), true);
            due("4: still SOFT", x.paper(person, false), true);
            due("4: no more", x.paper(person, true), false);
        }
        for (int person = 0; person < 6; person++) {
            due("4: SOFT of " + person, x.ofPerson(person, 3), person % 5 == 0 ? 1 : 0);
        }
    }

    private static void paper4Refused() {
        int[] nobody = {-1, 6, MIN, MAX};
        for (int no : nobody) {
            refused("4: paper of " + no, INDEX, x -> x.paper(no, true));
            refused("4: no paper of " + no, INDEX, x -> x.paper(no, false));
        }
        checks.refused("4: the one above", INDEX, Halls::two, x -> x.paper(2, true));
        checks.refused("4: an empty hall", INDEX, Halls::empty, x -> x.paper(0, true));
    }

    // ---- promise 5

    private static void throat5() {
        Quietpaper x = Halls.six();
        for (int person = 0; person < 6; person += 5) {
            due("5: 19 at first", x.throat(person, 0), 19);
            due("5: 0 then", x.throat(person, 1), 0);
            due("5: 1 then", x.throat(person, 18), 1);
            due("5: 18 then", x.throat(person, 19), 18);
            due("5: 19 again", x.throat(person, 0), 19);
        }
        for (int person = 0; person < 6; person++) {
            due("5: LAST SECOND of " + person, x.ofPerson(person, 4), person % 5 == 0 ? 0 : 19);
        }
    }

    private static void throat5Refused() {
        int[] nobody = {-1, 6, MIN, MAX};
        for (int no : nobody) {
            refused("5: throat of " + no, INDEX, x -> x.throat(no, 0));
            refused("5: throat of " + no + " before 20", INDEX, x -> x.throat(no, 20));
        }
        int[] noSeconds = {-1, 20, MIN, MAX};
        for (int no : noSeconds) {
            refused("5: throat till " + no, ARGUMENT, x -> x.throat(0, no));
            refused("5: throat of the last till " + no, ARGUMENT, x -> x.throat(5, no));
        }
        checks.refused("5: the one above", INDEX, Halls::two, x -> x.throat(2, 0));
        checks.refused("5: an empty hall", INDEX, Halls::empty, x -> x.throat(0, 0));
    }

    // ---- promise 6

    private static void noise6LeastAndGreatestVolume() {
        Quietpaper x = Halls.two();
        x.music(19, 19, 0);
        due("6: VOLUME 150 at 0", x.noise(0, 0, 150), 2);
        due("6: MIND of 150", x.minds(1, 0), 126);
        due("6: VOLUME 149 at 19", x.noise(1, 19, 149), 1);
        due("6: MIND of 149", x.minds(0, 19), 145);
        due("6: VOLUME 1", x.noise(0, 19, 1), 0);
        due("6: MIND of 1", x.minds(1, 19), 0);
        due("6: VOLUME 2", x.noise(0, 19, 2), 0);
        due("6: they fell", x.hall(1), 4);
        Quietpaper near = Halls.empty();
        near.person(0, 0, 9);
        near.person(0, 1, 9);
        near.music(0, 19, 4);
        due("6: VOLUME 1 that is minded", near.noise(1, 19, 1), 1);
        due("6: MIND 1 - 4 - 4 + 9", near.minds(0, 19), 2);
    }

    private static void noise6MindAboveZero() {
        Quietpaper x = Halls.six();
        // Of 0 minds 1 more than 87, 2 and 4 more than 47, 3 and 5 more than 60.
        int[][] want = {{47, 0}, {48, 20}, {60, 20}, {61, 60}, {87, 60}, {88, 62}};
        for (int[] w : want) {
            due("6: who mind " + w[0], x.noise(0, 19, w[0]), w[1]);
            due("6: and " + w[0] + " at 0", x.noise(0, 0, w[0]), w[1]);
        }
        x.music(0, 0, 19);
        due("6: LOUDNESS one below", x.noise(0, 0, 47), 20);
        due("6: elsewhere not", x.noise(0, 1, 47), 0);
    }

    private static void noise6SetOfNobodyAndOfAll() {
        due("6: alone", Halls.one().noise(0, 0, 150), 0);
        for (int person = 0; person < 6; person++) {
            Quietpaper x = Halls.six();
            due("6: all but " + person, x.noise(person, 19, 150), 63 - (1 << person));
            due("6: whatever else fell", x.noise(person, 19, 1), 0);
            due("6: as loud again", x.noise(person, 19, 150), 63 - (1 << person));
        }
    }

    private static void noise6AsManyAsCanBe() {
        Quietpaper x = Halls.two();
        for (int k = 0; k < 60; k++) {
            due("6: NOISE " + k, x.noise(k % 2, k % 20, 150), 2 - k % 2);
        }
        due("6: 60", x.hall(1), 60);
        checks.refused("6: a 61st", STATE, () -> Halls.twoWith(60), y -> y.noise(0, 0, 1));
        checks.refused("6: a 61st that nobody minds", STATE, () -> Halls.twoWith(60), y -> y.noise(1, 19, 1));
        due("6: the 60th", Halls.twoWith(59).noise(0, 0, 1), 0);
        x.evening();
        due("6: room again", x.noise(0, 19, 150), 2);
    }

    private static void noise6Refused() {
        int[] nobody = {-1, 6, MIN, MAX};
        for (int no : nobody) {
            refused("6: noise of " + no, INDEX, x -> x.noise(no, 0, 1));
            refused("6: noise of " + no + " before VOLUME 0", INDEX, x -> x.noise(no, 0, 0));
        }
        int[] noSeconds = {-1, 20, MIN, MAX};
        for (int no : noSeconds) {
            refused("6: noise at " + no, INDEX, x -> x.noise(5, no, 150));
            refused("6: noise at " + no + " before VOLUME 151", INDEX, x -> x.noise(5, no, 151));
        }
        int[] noVolumes = {0, 151, -1, MIN, MAX};
        for (int no : noVolumes) {
            refused("6: VOLUME " + no, ARGUMENT, x -> x.noise(0, 19, no));
        }
        checks.refused("6: the one above", INDEX, Halls::two, x -> x.noise(2, 0, 1));
        checks.refused("6: an empty hall", INDEX, Halls::empty, x -> x.noise(0, 0, 1));
    }

    // ---- promise 7

    private static void unwrap7LeastAndGreatest() {
        Quietpaper x = Halls.two();
        // The MIND at PACE 1 is 32 - 4 - 20, at 2 20, at 3 32.
        due("7: all at their least", x.unwrap(0, 1, 1, 0), 8);
        due("7: one NOISE", x.hall(1), 1);
        due("7: WORK 12 in one PIECE", x.unwrap(1, 12, 1, 0), 96);
        due("7: twelve NOISES more", x.hall(1), 13);
        due("7: all at their greatest", x.unwrap(1, 12, 20, 3), 128);
        due("7: four more", x.hall(1), 17);
        due("7: WORK 1 at PACE 3", x.unwrap(0, 1, 20, 3), 32);
        due("7: one more", x.hall(1), 18);
        due("7: WORK 12 at PACE 1", x.unwrap(0, 12, 20, 1), 96);
        due("7: twelve more", x.hall(1), 30);
        due("7: WORK 3 at PACE 3 is just done", x.unwrap(0, 3, 1, 3), 32);
        due("7: WORK 4 is not", x.unwrap(0, 4, 1, 3), 64);
        due("7: three more", x.hall(1), 33);
        due("7: nobody else minds", Halls.one().unwrap(0, 12, 1, 3), 0);
    }

    private static void unwrap7FirstAndLastSecond() {
        Quietpaper x = Halls.two();
        x.music(0, 0, 99);
        x.music(19, 19, 99);
        due("7: at 0 and at 19", x.unwrap(1, 2, 2, 1), 0);
        due("7: at 0", x.ofSecond(0, 2), 2);
        due("7: at 19", x.ofSecond(19, 2), 2);
        due("7: VOLUME 32", x.ofPerson(1, 7), 0);
        x.music(0, 19, 0);
        due("7: VOLUME 32 at LOUDNESS 0", x.ofPerson(1, 7), 56);
        x.evening();
        due("7: in one PIECE, of as good ones the last", x.unwrap(0, 2, 1, 1), 56);
        due("7: at 18", x.ofSecond(18, 1), 1);
        due("7: and at 19", x.ofSecond(19, 1), 1);
    }

    private static void unwrap7AsManyAsCanBe() {
        due("7: just 60", Halls.twoWith(48).unwrap(0, 12, 1, 1), 96);
        due("7: just 60 by one", Halls.twoWith(59).unwrap(1, 3, 1, 3), 32);
        Quietpaper x = Halls.twoWith(56);
        due("7: just 60 by four", x.unwrap(1, 12, 20, 3), 128);
        due("7: 60", x.hall(1), 60);
        checks.refused("7: 61 by twelve", STATE, () -> Halls.twoWith(49), y -> y.unwrap(0, 12, 1, 1));
        checks.refused("7: 61 by four", STATE, () -> Halls.twoWith(57), y -> y.unwrap(1, 12, 20, 3));
        checks.refused("7: 61 by one", STATE, () -> Halls.twoWith(60), y -> y.unwrap(1, 1, 1, 0));
        checks.refused("7: 61 by two that nobody minds", STATE, () -> {
            Quietpaper y = Halls.twoWith(59);
            y.music(0, 19, 99);
            return y;
        }, y -> y.unwrap(0, 4, 1, 2));
        Quietpaper odd = Halls.twoWith(58);
        odd.music(0, 19, 19);
        due("7: a COST that is odd", odd.unwrap(0, 1, 1, 1), 9);
        due("7: is one NOISE", odd.hall(1), 59);
        due("7: a COST that is odd, just 60", odd.unwrap(1, 1, 20, 1), 9);
        due("7: are 60", odd.hall(1), 60);
        checks.refused("7: 61 by the one at the first SECOND", STATE, () -> firstLoud(60), y -> y.unwrap(0, 3, 1, 3));
        checks.refused("7: 61 by those at both ends", STATE, () -> endsLoud(59), y -> y.unwrap(0, 6, 2, 3));
        due("7: just 60 by those at both ends", endsLoud(58).unwrap(0, 6, 2, 3), 0);
        x.evening();
        due("7: room again", x.unwrap(0, 12, 1, 1), 96);
        due("7: twelve", x.hall(1), 12);
    }

    /** Two with so many NOISES; nobody minds a crackle at the first SECOND. */
    private static Quietpaper firstLoud(int noises) {
        Quietpaper x = Halls.twoWith(noises);
        x.music(0, 0, 99);
        return x;
    }

    /** Nor at the last one. */
    private static Quietpaper endsLoud(int noises) {
        Quietpaper x = firstLoud(noises);
        x.music(19, 19, 99);
        return x;
    }

    private static void unwrap7Refused() {
        int[] nobody = {-1, 6, MIN, MAX};
        for (int no : nobody) {
            refused("7: unwrap of " + no, INDEX, x -> x.unwrap(no, 1, 1, 0));
            refused("7: unwrap of " + no + " before the rest", INDEX, x -> x.unwrap(no, 0, 0, 4));
        }
        int[][] wrong = {{0, 1, 0}, {13, 1, 0}, {MIN, 1, 0}, {MAX, 1, 0}, {1, 0, 0}, {1, 21, 0}, {1, MIN, 0},
            {1, MAX, 0}, {1, 1, -1}, {1, 1, 4}, {1, 1, MIN}, {1, 1, MAX}};
        for (int[] w : wrong) {
            refused("7: unwrap(.., " + w[0] + ", " + w[1] + ", " + w[2] + ")", ARGUMENT,
                    x -> x.unwrap(5, w[0], w[1], w[2]));
        }
        checks.refused("7: one too many", STATE, Halls::full, x -> x.unwrap(0, 1, 1, 0));
        checks.refused("7: the one above", INDEX, Halls::two, x -> x.unwrap(2, 1, 1, 0));
        checks.refused("7: an empty hall", INDEX, Halls::empty, x -> x.unwrap(0, 1, 1, 0));
    }

    // ---- promise 8

    private static void cough8SetOfOneAndOfAll() {
        Quietpaper x = Halls.six();
        due("8: the first alone", x.cough(1), 0);
        due("8: of the first", x.ofSecond(0, 2), 1);
        due("8: the last alone", x.cough(32), 0);
        due("8: of both", x.ofSecond(0, 2), 33);
        due("8: all", x.cough(63), 0);
        due("8: of all", x.ofSecond(0, 2), 63);
        due("8: eight NOISES", x.ofSecond(0, 1), 8);
        // What each minds: 8, 17, 13, 4, 33, 32 of the nearest cough of 60.
        due("8: VOLUME 60", x.ofSecond(0, 4), 107);
        due("8: alone in the hall", Halls.one().cough(1), 0);
    }

    private static void cough8LastSecond() {
        Quietpaper x = Halls.six();
        x.music(19, 19, 99);
        due("8: at 19", x.cough(63), 19);
        x.throat(5, 18);
        due("8: no more at 19", x.cough(63), 0);
        due("8: without that one", x.cough(31), 19);
        x.throat(5, 0);
        x.music(1, 1, 98);
        due("8: at 0 at the latest", x.cough(32), 0);
        x.throat(5, 1);
        due("8: at 1 at the latest", x.cough(32), 1);
        due("8: no later than that of each", x.cough(63), 1);
        x.music(0, 19, 60);
        due("8: of as good ones the smallest", x.cough(31), 0);
    }

    private static void cough8AsManyAsCanBe() {
        Quietpaper x = Halls.busyWith(54);
        due("8: all six, just 60", x.cough(63), 0);
        due("8: 60", x.hall(1), 60);
        due("8: one, just 60", Halls.twoWith(59).cough(2), 0);
        checks.refused("8: 61 by six", STATE, () -> Halls.busyWith(55), y -> y.cough(63));
        checks.refused("8: 61 by two", STATE, () -> Halls.twoWith(59), y -> y.cough(3));
        checks.refused("8: 61 by one", STATE, () -> Halls.twoWith(60), y -> y.cough(1));
        x.evening();
        due("8: room again", x.cough(63), 0);
        due("8: six", x.hall(1), 6);
    }

    private static void cough8Refused() {
        int[] noSets = {0, 64, 65, 127, -1, -64, MIN, MAX};
        for (int no : noSets) {
            refused("8: cough of " + no, ARGUMENT, x -> x.cough(no));
        }
        checks.refused("8: one too many", STATE, Halls::full, x -> x.cough(32));
        int[] noSetsOfTwo = {0, 4, 5, 7, 63, -1};
        for (int no : noSetsOfTwo) {
            checks.refused("8: two people, cough of " + no, ARGUMENT, Halls::two, x -> x.cough(no));
        }
        checks.refused("8: an empty hall, all", ARGUMENT, Halls::empty, x -> x.cough(63));
    }

    // ---- promises 9 and 10

    private static void evening9() {
        due("9: an empty hall", Halls.empty().evening(), 0);
        due("9: nothing fell", Halls.six().evening(), 0);
        due("9: one", Halls.twoWith(1).evening(), 1);
        Quietpaper x = Halls.full();
        due("9: 60", x.evening(), 60);
        due("9: none any more", x.evening(), 0);
        for (int second = 0; second < 20; second++) {
            for (int what = 1; what < 5; what++) {
                due("9: " + what + " of " + second, x.ofSecond(second, what), 0);
            }
        }
        for (int k = 0; k < 60; k++) {
            x.noise(5, 19, 1);
        }
        due("9: 60 again", x.evening(), 60);
        due("9: people stay", x.hall(0), 6);
        due("9: REFUSED stay", x.hall(7), 2);
    }

    private static void knock10() {
        Quietpaper x = Halls.empty();
        due("10: none at first", x.hall(7), 0);
        for (int k = 1; k <= 510; k++) {
            due("10: REFUSED", x.knock(), k);
        }
        due("10: the 512th call", x.hall(7), 510);
        due("10: the hall is full", Halls.six().knock(), 1);
        due("10: 60 NOISES", Halls.full().knock(), 3);
    }
}
