import java.math.BigInteger;
import java.util.ArrayList;
import java.util.List;
import java.util.function.Consumer;

/** Promises 11 to 23: a test for each sentence that names a boundary. The answers are worked out by hand. */
public final class BoundaryOfAnswersTests {
    private static final Class<IndexOutOfBoundsException> INDEX = IndexOutOfBoundsException.class;
    private static final Class<IllegalArgumentException> ARGUMENT = IllegalArgumentException.class;
    private static final int MIN = Integer.MIN_VALUE;
    private static final int MAX = Integer.MAX_VALUE;
    private static final int[] NOBODY = {-1, 6, MIN, MAX};
    private static final int[] NO_SECONDS = {-1, 20, MIN, MAX};
    private static final int[] NO_VOLUMES = {0, 151, -1, MIN, MAX};
    private static final int[][] WRONG_SWEETS = {{0, 1, 0}, {13, 1, 0}, {-1, 1, 0}, {MIN, 1, 0}, {MAX, 1, 0},
        {12, 0, 3}, {12, 21, 3}, {12, -1, 3}, {12, MIN, 3}, {12, MAX, 3},
        {1, 1, -1}, {1, 1, 4}, {1, 1, MIN}, {1, 1, MAX}};
    /** 9007, 8 times 0, 20 times 20, 0, 0, 0, 0, then 6 times 0 and 1: worked out beside this program. */
    private static final long EMPTY_DIGEST = -7822895061268754574L;
    private static final Checks checks = new Checks("BoundaryOfAnswersTests");

    private BoundaryOfAnswersTests() {
    }

    public static void main(String[] args) {
        ofSecond11WithoutPeople();
        ofSecond11FirstAndLastSecond();
        ofSecond11AsManyAsCanBe();
        ofSecond11HeadsFrom5On();
        ofSecond11Refused();
        ofPerson12NoneAndSixty();
        ofPerson12GreatestScore();
        ofPerson12Refused();
        minds13LeastAndGreatest();
        minds13Refused();
        refund14RoundsUp();
        refund14FirstAndLastRow();
        refund14Refused();
        hall15NoneAndAsManyAsCanBe();
        hall15LoudestSecond();
        hall15Refused();
        would16LeastAndGreatest();
        would16Refused();
        cost17LeastAndGreatest();
        cost17JustTheWork();
        cost17AsManyPiecesAsCanBe();
        cost17Refused();
        plan18FirstAndLastSecond();
        plan18AsManyPiecesAsCanBe();
        plan18OfAsGoodOnes();
        plan18Refused();
        loudest19LeastAndGreatest();
        loudest19Refused();
        coughing20SetOfOneAndOfAll();
        coughing20LastSecond();
        coughing20Refused();
        suspects21SetOfNobodyAndOfAll();
        suspects21HeadsFrom5On();
        suspects21Refused();
        sound22();
        digest23WithoutPeopleAndWithSix();
        digest23WrapsAround();
        theLastCallOf512();
        checks.end();
    }

    private static void due(String call, Object got, Object want) {
        checks.due(call, got, want);
    }

    /** Asks it of a hall in which something of everything is, and of one that has as many NOISES as can be. */
    private static void refused(String call, Class<? extends RuntimeException> kind, Consumer<Quietpaper> run) {
        checks.refused(call, kind, Halls::busy, run);
        checks.refused(call + " of a full hall", kind, Halls::full, run);
    }

    /** Asks it of a hall with nobody and of one with two, neither of which has somebody with that number. */
    private static void refusedWhereNobodyIs(String call, Consumer<Quietpaper> of2, Consumer<Quietpaper> of0) {
        checks.refused(call + " of the one above", INDEX, Halls::two, of2);
        checks.refused(call + " of an empty hall", INDEX, Halls::empty, of0);
    }

    /** Person by person a noise of VOLUME 150 at that SECOND. */
    private static void allAt(Quietpaper x, int second) {
        for (int person = 0; person < 6; person++) {
            x.noise(person, second, 150);
        }
    }

    // ---- promise 11

    private static void ofSecond11WithoutPeople() {
        Quietpaper x = Halls.empty();
        x.music(0, 0, 0);
        x.music(19, 19, 99);
        for (int what = 0; what < 5; what++) {
            due("11: " + what + " of 0, nobody there", x.ofSecond(0, what), 0);
            due("11: " + what + " of 19, nobody there", x.ofSecond(19, what), what == 0 ? 99 : 0);
        }
        Quietpaper one = Halls.one();
        one.noise(0, 7, 150);
        int[] alone = {20, 1, 1, 0, 0};
        for (int what = 0; what < 5; what++) {
            due("11: " + what + " of 7, one alone", one.ofSecond(7, what), alone[what]);
        }
    }

    private static void ofSecond11FirstAndLastSecond() {
        for (int second = 0; second < 20; second += 19) {
            Quietpaper x = Halls.six();
            allAt(x, second);
            // The nearest of each is 8, 8, 9, 9, 3, 3 away: 98, 107, 103, 94, 123, 122.
            int[] want = {20, 6, 63, 63, 647};
            for (int what = 0; what < 5; what++) {
                due("11: " + what + " of " + second, x.ofSecond(second, what), want[what]);
                int other = second == 0 ? 1 : 18;
                due("11: " + what + " of " + other, x.ofSecond(other, what), what == 0 ? 20 : 0);
            }
        }
    }

    private static void ofSecond11AsManyAsCanBe() {
        Quietpaper x = Halls.twoWith(60);
        int[] want = {20, 60, 1, 2, 76};
        for (int what = 0; what < 5; what++) {
            due("11: " + what + " of 60 NOISES", x.ofSecond(0, what), want[what]);
            due("11: " + what + " of none", x.ofSecond(19, what), what == 0 ? 20 : 0);
        }
    }

    private static void ofSecond11HeadsFrom5On() {
        Quietpaper x = Halls.two();
        int[][] want = {{24, 0, 0}, {25, 0, 1}, {28, 0, 4}, {29, 2, 5}, {30, 2, 6}};
        for (int[] w : want) {
            x.evening();
            x.noise(0, 19, w[0]);
            due("11: HEADS of " + w[0], x.ofSecond(19, 3), w[1]);
            due("11: what is minded of " + w[0], x.ofSecond(19, 4), w[2]);
        }
        x.evening();
        x.noise(0, 0, 28);
        x.noise(0, 0, 28);
        due("11: twice 4 turns no head", x.ofSecond(0, 3), 0);
        due("11: twice 4 is minded once", x.ofSecond(0, 4), 4);
        x.music(0, 0, 19);
        due("11: by LOUDNESS as it is now", x.ofSecond(0, 3), 2);
    }

    private static void ofSecond11Refused() {
        for (int no : NO_SECONDS) {
            refused("11: SECOND " + no, INDEX, x -> x.ofSecond(no, 0));
            refused("11: SECOND " + no + " before 5", INDEX, x -> x.ofSecond(no, 5));
            checks.refused("11: SECOND " + no + " of an empty hall", INDEX, Halls::empty, x -> x.ofSecond(no, 4));
        }
        int[] noQuestions = {-1, 5, MIN, MAX};
        for (int no : noQuestions) {
            refused("11: what " + no + " of 0", ARGUMENT, x -> x.ofSecond(0, no));
            refused("11: what " + no + " of 19", ARGUMENT, x -> x.ofSecond(19, no));
        }
    }

    // ---- promise 12

    private static void ofPerson12NoneAndSixty() {
        Quietpaper x = Halls.two();
        due("12: SCORE 0", x.ofPerson(0, 5), 0);
        due("12: no NOISES of the own", x.ofPerson(1, 6), 0);
        due("12: no MINDS of these", x.ofPerson(1, 7), 0);
        Quietpaper y = Halls.twoWith(60);
        due("12: the own are not minded", y.ofPerson(0, 5), 0);
        due("12: 60 of the own", y.ofPerson(0, 6), 60);
        due("12: each by itself", y.ofPerson(0, 7), 60 * 76);
        due("12: the greatest alone", y.ofPerson(1, 5), 76);
        due("12: none of the other", y.ofPerson(1, 6), 0);
        Quietpaper z = Halls.six();
        for (int k = 0; k < 60; k++) {
            z.noise(5, 19, 150);
        }
        // Of 5 mind 0 86, 1 107, 2 99, 3 94, 4 123.
        due("12: 60 of 150 by the last", z.ofPerson(5, 7), 60 * (86 + 107 + 99 + 94 + 123));
        due("12: of which one counts", z.ofPerson(4, 5), 123);
        due("12: ROW of the last", z.ofPerson(5, 0), 3);
        due("12: LAST SECOND of the last", z.ofPerson(5, 4), 19);
    }

    private static void ofPerson12GreatestScore() {
        Quietpaper x = loudAll();
        due("12: a MIND of 155 at each SECOND", x.ofPerson(1, 5), 3100);
        due("12: of the other as well", x.ofPerson(0, 5), 3100);
        due("12: 20 of the own", x.ofPerson(0, 6), 20);
        due("12: 3100 by these", x.ofPerson(0, 7), 3100);
        x.music(0, 0, 1);
        due("12: one less", x.ofPerson(1, 5), 3099);
        x.music(19, 19, 99);
        due("12: 99 less", x.ofPerson(1, 5), 3000);
    }

    /** Two neighbours with EAR 9 and no music at all, and from each 150 at each SECOND. */
    private static Quietpaper loudAll() {
        Quietpaper x = Halls.empty();
        x.person(5, 8, 9);
        x.person(5, 9, 9);
        x.music(0, 19, 0);
        for (int second = 0; second < 20; second++) {
            x.noise(0, second, 150);
            x.noise(1, second, 150);
        }
        return x;
    }

    private static void ofPerson12Refused() {
        for (int no : NOBODY) {
            refused("12: person " + no, INDEX, x -> x.ofPerson(no, 0));
            refused("12: person " + no + " before 8", INDEX, x -> x.ofPerson(no, 8));
        }
        int[] noQuestions = {-1, 8, MIN, MAX};
        for (int no : noQuestions) {
            refused("12: what " + no + " of 0", ARGUMENT, x -> x.ofPerson(0, no));
            refused("12: what " + no + " of 5", ARGUMENT, x -> x.ofPerson(5, no));
        }
        refusedWhereNobodyIs("12: EAR", x -> x.ofPerson(2, 2), x -> x.ofPerson(0, 2));
    }

    // ---- promise 13

    private static void minds13LeastAndGreatest() {
        Quietpaper x = loudAll();
        due("13: as much as can be at 0", x.minds(0, 0), 155);
        due("13: as much as can be at 19", x.minds(1, 19), 155);
        Quietpaper y = Halls.six();
        due("13: nothing at 0", y.minds(0, 0), 0);
        due("13: nothing at 19", y.minds(5, 19), 0);
        y.noise(0, 0, 87);
        due("13: VOLUME - 76 - 20 + 9 is 0", y.minds(1, 0), 0);
        y.noise(0, 0, 88);
        due("13: 1", y.minds(1, 0), 1);
        due("13: nobody minds the own", y.minds(0, 0), 0);
        y.noise(0, 1, 1);
        due("13: never below 0", y.minds(1, 1), 0);
        y.noise(5, 0, 28);
        due("13: only the greatest", y.minds(4, 0), 88 - 32 - 20 + 5);
        due("13: at another SECOND", y.minds(4, 1), 0);
    }

    private static void minds13Refused() {
        for (int no : NOBODY) {
            refused("13: person " + no, INDEX, x -> x.minds(no, 0));
            refused("13: person " + no + " at 20", INDEX, x -> x.minds(no, 20));
        }
        for (int no : NO_SECONDS) {
            refused("13: SECOND " + no, INDEX, x -> x.minds(0, no));
            refused("13: SECOND " + no + " of 5", INDEX, x -> x.minds(5, no));
        }
        refusedWhereNobodyIs("13: minds", x -> x.minds(2, 0), x -> x.minds(0, 0));
    }

    // ---- promise 14

    private static void refund14RoundsUp() {
        // SCORE of 1 by a noise of VOLUME v is v - 24.
        int[][] want = {{24, 0}, {25, 1}, {33, 1}, {34, 1}, {35, 2}, {44, 2}, {45, 3}, {150, 13}};
        for (int[] w : want) {
            Quietpaper x = Halls.two();
            x.noise(0, 19, w[0]);
            due("14: refund for " + (w[0] - 24), x.refund(0), w[1]);
        }
        Quietpaper x = Halls.two();
        x.noise(0, 0, 29);
        x.noise(1, 1, 29);
        due("14: 5 and 5 together", x.refund(0), 1);
        x.noise(1, 2, 25);
        due("14: 5 and 6 together", x.refund(0), 2);
    }

    private static void refund14FirstAndLastRow() {
        Quietpaper x = Halls.six();
        allAt(x, 0);
        allAt(x, 19);
        // SCORES twice 98, 107, 103, 94, 123, 122; the ROWS are 0, 5, 0, 5, 2, 3.
        int[] want = {41, 0, 25, 25, 0, 41};
        for (int row = 0; row < 6; row++) {
            due("14: refund of " + row, x.refund(row), want[row]);
        }
        due("14: the greatest", loudAll().refund(5), 620);
        due("14: nobody there", Halls.empty().refund(5), 0);
        due("14: nothing fell", Halls.six().refund(0), 0);
    }

    private static void refund14Refused() {
        int[] noRows = {-1, 6, MIN, MAX};
        for (int no : noRows) {
            refused("14: ROW " + no, INDEX, x -> x.refund(no));
            checks.refused("14: ROW " + no + " of an empty hall", INDEX, Halls::empty, x -> x.refund(no));
        }
    }

    // ---- promise 15

    private static void hall15NoneAndAsManyAsCanBe() {
        Quietpaper x = loudAll();
        int[] loud = {2, 40, 6200, 3100, 0, 620, 20, 0};
        for (int what = 0; what < 8; what++) {
            due("15: " + what + " of the loudest", x.hall(what), loud[what]);
            due("15: " + what + " of none", Halls.empty().hall(what), 0);
            due("15: " + what + " of one", Halls.one().hall(what), what == 0 ? 1 : 0);
            due("15: " + what + " of six", Halls.six().hall(what), what == 0 ? 6 : 0);
        }
        due("15: 60 NOISES", Halls.full().hall(1), 60);
        Quietpaper y = Halls.six();
        allAt(y, 0);
        int[] want = {6, 6, 647, 123, 0, 21 + 13 + 13 + 21, 1, 0};
        for (int what = 0; what < 8; what++) {
            due("15: " + what + " of six at 0", y.hall(what), want[what]);
        }
        allAt(y, 19);
        due("15: two SECONDS have HEADS", y.hall(6), 2);
        Quietpaper z = Halls.two();
        z.noise(0, 0, 28);
        due("15: 4 turns no head", z.hall(6), 0);
        z.noise(0, 0, 29);
        due("15: 5 turns one", z.hall(6), 1);
        due("15: the greatest SCORE is the first's", scoreOfFirst(), 76);
    }

    private static int scoreOfFirst() {
        Quietpaper x = Halls.two();
        x.noise(1, 3, 100);
        return x.hall(3);
    }

    private static void hall15LoudestSecond() {
        Quietpaper x = Halls.empty();
        due("15: all as loud", x.hall(4), 0);
        x.music(19, 19, 21);
        due("15: the last", x.hall(4), 19);
        x.music(18, 18, 21);
        due("15: of as loud ones the smaller", x.hall(4), 18);
        x.music(0, 0, 21);
        due("15: the first", x.hall(4), 0);
        x.music(0, 0, 20);
        x.music(1, 1, 99);
        due("15: the second", x.hall(4), 1);
        x.music(0, 19, 0);
        due("15: no music at all", x.hall(4), 0);
        x.music(0, 18, 0);
        x.music(19, 19, 1);
        due("15: the last by 1", x.hall(4), 19);
    }

    private static void hall15Refused() {
        int[] noQuestions = {-1, 8, MIN, MAX};
        for (int no : noQuestions) {
            refused("15: what " + no, ARGUMENT, x -> x.hall(no));
            checks.refused("15: what " + no + " of an empty hall", ARGUMENT, Halls::empty, x -> x.hall(no));
        }
    }

    // ---- promise 16

    private static void would16LeastAndGreatest() {
        Quietpaper x = Halls.six();
        // Of 0 mind 1 63, 2 103, 3 90, 4 103, 5 90.
        due("16: VOLUME 150 at 0", x.would(0, 0, 150), 449);
        due("16: VOLUME 149 at 19", x.would(0, 19, 149), 444);
        due("16: VOLUME 1", x.would(0, 0, 1), 0);
        due("16: VOLUME 150 of the last", x.would(5, 19, 150), 509);
        due("16: MIND 0 of all", x.would(0, 0, 47), 0);
        due("16: MIND 1 of two", x.would(0, 0, 48), 2);
        due("16: nobody else", Halls.one().would(0, 0, 150), 0);
        due("16: 60 NOISES do not hinder", Halls.twoWith(60).would(0, 0, 150), 126);
        due("16: nor those that fell then", Halls.twoWith(60).would(0, 0, 25), 1);
        due("16: as FAR as can be", far(97, 9), 97 - 76 - 20 + 9);
        due("16: just not minded", far(96, 0), 0);
        due("16: just minded", far(97, 0), 1);
        due("16: nothing fell", x.hall(1), 0);
    }

    private static int far(int volume, int ear) {
        Quietpaper x = Halls.empty();
        x.person(0, 9, 0);
        x.person(5, 0, ear);
        return x.would(0, 0, volume);
    }

    private static void would16Refused() {
        for (int no : NOBODY) {
            refused("16: would of " + no, INDEX, x -> x.would(no, 0, 1));
            refused("16: would of " + no + " before VOLUME 0", INDEX, x -> x.would(no, 0, 0));
        }
        for (int no : NO_SECONDS) {
            refused("16: would at " + no, INDEX, x -> x.would(5, no, 150));
            refused("16: would at " + no + " before VOLUME 151", INDEX, x -> x.would(5, no, 151));
        }
        for (int no : NO_VOLUMES) {
            refused("16: VOLUME " + no, ARGUMENT, x -> x.would(5, 19, no));
        }
        refusedWhereNobodyIs("16: would", x -> x.would(2, 0, 1), x -> x.would(0, 0, 1));
    }

    // ---- promise 17

    private static void cost17LeastAndGreatest() {
        Quietpaper x = Halls.two();
        // The MIND at PACE 1 is 32 - 4 - 20, at 2 20, at 3 32.
        due("17: all at their least", x.cost(0, 1, 1, 0), 8);
        due("17: all at their greatest", x.cost(1, 12, 20, 3), 128);
        due("17: WORK 12 in one PIECE at any PACE", x.cost(0, 12, 1, 0), 96);
        due("17: WORK 1 at PACE 2", x.cost(0, 1, 20, 2), 20);
        due("17: WORK 12 at PACE 2", x.cost(0, 12, 1, 2), 120);
        x.music(0, 19, 99);
        due("17: so loud that it costs nothing", x.cost(0, 12, 1, 3), 0);
        x.music(0, 19, 0);
        due("17: no music: 12 of 28", x.cost(0, 12, 20, 1), 336);
        due("17: no music: 4 of 52", x.cost(0, 12, 20, 0), 208);
        x.paper(0, true);
        due("17: SOFT: 12 of 15", x.cost(0, 12, 20, 1), 180);
        due("17: SOFT: 6 of 22", x.cost(0, 12, 20, 2), 132);
        due("17: SOFT: 4 of 29", x.cost(0, 12, 20, 3), 116);
        due("17: alone", Halls.one().cost(0, 12, 20, 3), 0);
        due("17: 60 NOISES do not hinder", Halls.twoWith(60).cost(0, 12, 1, 1), 96);
    }

    private static void cost17JustTheWork() {
        Quietpaper x = Halls.two();
        for (int work = 1; work <= 12; work++) {
            for (int pace = 1; pace <= 3; pace++) {
                int crackles = work / pace + (work % pace > 0 ? 1 : 0);
                int mind = 12 * pace - 4;
                due("17: WORK " + work + " at " + pace, x.cost(0, work, 1, pace), crackles * mind);
                due("17: WORK " + work + " at " + pace + " in 20", x.cost(1, work, 20, pace), crackles * mind);
            }
        }
    }

    /** SECONDS 0, 2, .. 18 are so loud that nobody minds a crackle. */
    private static Quietpaper everySecond() {
        Quietpaper x = Halls.two();
        for (int second = 0; second < 20; second += 2) {
            x.music(second, second, 99);
        }
        return x;
    }

    private static void cost17AsManyPiecesAsCanBe() {
        Quietpaper x = everySecond();
        // With k of the loud ones in n PIECES, k - n still ones lie inside, and 10 - k are needed: half of 10 - n, up.
        int[] want = {40, 32, 32, 24, 24, 16, 16, 8, 8, 0};
        for (int pieces = 1; pieces <= 10; pieces++) {
            due("17: " + pieces + " PIECES", x.cost(0, 10, pieces, 1), want[pieces - 1]);
        }
        due("17: 11 PIECES", x.cost(0, 10, 11, 1), 0);
        due("17: 20 PIECES", x.cost(0, 10, 20, 1), 0);
        due("17: the eleventh crackle", x.cost(0, 11, 20, 1), 8);
        due("17: the twelfth", x.cost(0, 12, 20, 1), 16);
        due("17: at PACE 3 four suffice", x.cost(0, 12, 4, 3), 0);
        due("17: three do not", x.cost(0, 12, 3, 3), 32);
    }

    private static void cost17Refused() {
        for (int no : NOBODY) {
            refused("17: cost of " + no, INDEX, x -> x.cost(no, 1, 1, 0));
            refused("17: cost of " + no + " before the rest", INDEX, x -> x.cost(no, 13, 21, -1));
        }
        for (int[] w : WRONG_SWEETS) {
            refused("17: cost(.., " + w[0] + ", " + w[1] + ", " + w[2] + ")", ARGUMENT,
                    x -> x.cost(5, w[0], w[1], w[2]));
        }
        refusedWhereNobodyIs("17: cost", x -> x.cost(2, 1, 1, 0), x -> x.cost(0, 1, 1, 0));
    }

    // ---- promise 18

    private static void plan18FirstAndLastSecond() {
        Quietpaper x = Halls.two();
        due("18: the least at the last SECOND", x.plan(0, 1, 1, 0), "...................1");
        due("18: PACE 3 at the last SECOND", x.plan(1, 3, 20, 3), "...................3");
        due("18: twelve to the last SECOND", x.plan(0, 12, 1, 0), "........111111111111");
        x.music(0, 11, 90);
        due("18: twelve from the first SECOND on", x.plan(0, 12, 1, 1), "111111111111........");
        x.music(1, 19, 20);
        due("18: PACE 3 at the first SECOND", x.plan(0, 3, 1, 0), "3...................");
        due("18: more WORK goes on there", x.plan(0, 5, 1, 0), "311.................");
        due("18: or elsewhere", x.plan(0, 5, 2, 0), "3.................11");
        x.music(19, 19, 90);
        due("18: both ends", x.plan(0, 6, 2, 0), "3..................3");
        due("18: both ends, but one PIECE", x.plan(0, 6, 1, 0), "................1113");
    }

    private static void plan18AsManyPiecesAsCanBe() {
        Quietpaper x = everySecond();
        due("18: ten PIECES", x.plan(0, 10, 10, 1), "1.1.1.1.1.1.1.1.1.1.");
        due("18: 20 PIECES", x.plan(0, 10, 20, 1), "1.1.1.1.1.1.1.1.1.1.");
        due("18: nine PIECES", x.plan(0, 10, 9, 1), "..1.1.1.1.1.1.1.1.11");
        due("18: one PIECE", x.plan(0, 10, 1, 1), "..........1111111111");
        due("18: twelve as FAR as can be", x.plan(0, 12, 20, 1), "1.1.1.1.1.1.1.1.1111");
    }

    private static void plan18OfAsGoodOnes() {
        Quietpaper x = Halls.one();
        due("18: nobody else, WORK 1", x.plan(0, 1, 1, 0), "...................1");
        due("18: nobody else, WORK 12", x.plan(0, 12, 20, 0), "................3333");
        due("18: nobody else, WORK 12 at 2", x.plan(0, 12, 20, 2), "..............222222");
        due("18: nobody else, WORK 4", x.plan(0, 4, 20, 0), "..................13");
        due("18: nobody else, WORK 5", x.plan(0, 5, 1, 0), "..................23");
        due("18: more than the WORK, at 3", x.plan(0, 4, 1, 3), "..................33");
        due("18: more than the WORK, at 2", x.plan(0, 3, 1, 2), "..................22");
        Quietpaper full = Halls.twoWith(60);
        due("18: 60 NOISES do not hinder", full.plan(0, 12, 1, 3), "................3333");
        due("18: nothing falls", full.hall(1), 60);
    }

    private static void plan18Refused() {
        for (int no : NOBODY) {
            refused("18: plan of " + no, INDEX, x -> x.plan(no, 1, 1, 0));
            refused("18: plan of " + no + " before the rest", INDEX, x -> x.plan(no, 0, 0, 4));
        }
        for (int[] w : WRONG_SWEETS) {
            refused("18: plan(.., " + w[0] + ", " + w[1] + ", " + w[2] + ")", ARGUMENT,
                    x -> x.plan(0, w[0], w[1], w[2]));
        }
        refusedWhereNobodyIs("18: plan", x -> x.plan(2, 1, 1, 0), x -> x.plan(0, 1, 1, 0));
    }

    // ---- promise 19

    private static void loudest19LeastAndGreatest() {
        Quietpaper x = Halls.two();
        for (int second = 0; second < 20; second++) {
            x.music(second, second, second);
        }
        // The MIND is 28 - LOUDNESS at PACE 1, 40 - at 2, 52 - at 3; the loudest is 19, then 18, ..
        due("19: the least", x.loudest(0, 1, 1), 9);
        due("19: WORK 12 at 1", x.loudest(0, 12, 1), 9 * 12 + 66);
        due("19: WORK 2 at 2", x.loudest(0, 2, 2), 21);
        due("19: WORK 3 at 2", x.loudest(0, 3, 2), 43);
        due("19: WORK 12 at 2", x.loudest(0, 12, 2), 21 * 6 + 15);
        due("19: WORK 11 at 2", x.loudest(0, 11, 2), 21 * 6 + 15);
        due("19: WORK 1 at 3", x.loudest(1, 1, 3), 33);
        due("19: WORK 3 at 3", x.loudest(1, 3, 3), 33);
        due("19: WORK 4 at 3", x.loudest(1, 4, 3), 67);
        due("19: the greatest", x.loudest(1, 12, 3), 33 * 4 + 6);
        x.music(0, 0, 99);
        due("19: at the first", x.loudest(0, 1, 1), 0);
        due("19: and the last", x.loudest(0, 2, 1), 9);
        due("19: alone", Halls.one().loudest(0, 12, 3), 0);
        due("19: all as loud", Halls.two().loudest(0, 12, 1), 96);
    }

    private static void loudest19Refused() {
        for (int no : NOBODY) {
            refused("19: loudest of " + no, INDEX, x -> x.loudest(no, 1, 1));
            refused("19: loudest of " + no + " before the rest", INDEX, x -> x.loudest(no, 0, 0));
        }
        int[][] wrong = {{0, 1}, {13, 1}, {-1, 1}, {MIN, 1}, {MAX, 1}, {12, 0}, {12, 4}, {12, -1}, {12, MIN},
            {12, MAX}};
        for (int[] w : wrong) {
            refused("19: loudest(.., " + w[0] + ", " + w[1] + ")", ARGUMENT, x -> x.loudest(5, w[0], w[1]));
        }
        refusedWhereNobodyIs("19: loudest", x -> x.loudest(2, 1, 1), x -> x.loudest(0, 1, 1));
    }

    // ---- promise 20

    private static void coughing20SetOfOneAndOfAll() {
        Quietpaper x = Halls.six();
        // A cough is minded with 40 - 4 * FAR + EAR.
        int[] alone = {26, 26, 26, 26, 58, 63};
        for (int person = 0; person < 6; person++) {
            due("20: at which " + person, x.coughing(1 << person, 0), 0);
            due("20: the sum of " + person, x.coughing(1 << person, 1), alone[person]);
            due("20: APART, one alone, " + person, x.coughing(1 << person, 2), alone[person]);
        }
        due("20: at which all", x.coughing(63, 0), 0);
        due("20: all TOGETHER", x.coughing(63, 1), 8 + 17 + 13 + 4 + 33 + 32);
        due("20: all APART", x.coughing(63, 2), 4 * 26 + 58 + 63);
        due("20: two TOGETHER mind each other", Halls.two().coughing(3, 1), 72);
        due("20: two APART", Halls.two().coughing(3, 2), 72);
        for (int what = 0; what < 3; what++) {
            due("20: alone in the hall, " + what, Halls.one().coughing(1, what), 0);
        }
        due("20: 60 NOISES do not hinder", Halls.twoWith(60).coughing(3, 1), 72);
        due("20: nothing falls", x.hall(1), 0);
    }

    private static void coughing20LastSecond() {
        Quietpaper x = Halls.two();
        x.music(19, 19, 59);
        due("20: at 19", x.coughing(3, 0), 19);
        due("20: nobody minds it", x.coughing(3, 1), 0);
        x.music(19, 19, 55);
        due("20: MIND 1 each", x.coughing(3, 1), 2);
        due("20: MIND 1 each APART", x.coughing(3, 2), 2);
        x.throat(1, 18);
        due("20: no more at 19", x.coughing(3, 0), 0);
        due("20: 36 each", x.coughing(3, 1), 72);
        due("20: APART one still", x.coughing(3, 2), 37);
        due("20: alone still at 19", x.coughing(1, 0), 19);
        x.throat(0, 0);
        x.music(1, 1, 99);
        due("20: at 0 at the latest", x.coughing(1, 0), 0);
        due("20: with that one at 0", x.coughing(3, 0), 0);
        x.throat(0, 1);
        due("20: at 1", x.coughing(1, 0), 1);
        x.music(0, 19, 99);
        due("20: of as good ones the smallest", x.coughing(3, 0), 0);
        x.music(0, 0, 55);
        due("20: of as good ones the smallest later", x.coughing(3, 0), 1);
        x.throat(0, 19);
        x.throat(1, 19);
        x.music(0, 19, 20);
        x.music(5, 5, 30);
        x.music(9, 9, 25);
        due("20: the least, not the last that is less", x.coughing(3, 0), 5);
    }

    private static void coughing20Refused() {
        int[] noSets = {0, 64, 65, 127, -1, -64, MIN, MAX};
        for (int no : noSets) {
            refused("20: coughing of " + no, ARGUMENT, x -> x.coughing(no, 0));
            refused("20: coughing of " + no + ", 3", ARGUMENT, x -> x.coughing(no, 3));
        }
        int[] noQuestions = {-1, 3, MIN, MAX};
        for (int no : noQuestions) {
            refused("20: what " + no, ARGUMENT, x -> x.coughing(63, no));
        }
        int[] noSetsOfTwo = {0, 4, 5, 7, 63, -1};
        for (int no : noSetsOfTwo) {
            checks.refused("20: two people, " + no, ARGUMENT, Halls::two, x -> x.coughing(no, 2));
        }
        checks.refused("20: an empty hall, all", ARGUMENT, Halls::empty, x -> x.coughing(63, 0));
        checks.refused("20: an empty hall, nobody", ARGUMENT, Halls::empty, x -> x.coughing(0, 0));
    }

    // ---- promise 21

    private static void suspects21SetOfNobodyAndOfAll() {
        Quietpaper x = Halls.six();
        due("21: so soft that it can have been each", x.suspects(0, 0, 1), 63);
        due("21: so loud that it was nobody", x.suspects(19, 0, 150), 0);
        due("21: all heads: the own would be in it", x.suspects(0, 63, 150), 0);
        for (int person = 0; person < 6; person++) {
            int others = 63 - (1 << person);
            due("21: all but " + person, x.suspects(19, others, 150), 1 << person);
            due("21: all but " + person + " softly", x.suspects(0, others, 1), 0);
        }
        due("21: alone", Halls.one().suspects(0, 0, 150), 1);
        due("21: alone, the own head", Halls.one().suspects(0, 1, 150), 0);
        due("21: nobody there", Halls.empty().suspects(19, 0, 1), 0);
        due("21: NOISES that fell do not count", Halls.twoWith(60).suspects(0, 0, 1), 3);
    }

    private static void suspects21HeadsFrom5On() {
        Quietpaper x = Halls.two();
        due("21: 4 turns nobody", x.suspects(0, 0, 28), 3);
        due("21: 4 does not turn 1", x.suspects(0, 2, 28), 0);
        due("21: 5 turns 1", x.suspects(0, 2, 29), 1);
        due("21: 5 turns 0", x.suspects(0, 1, 29), 2);
        due("21: 5 turns somebody", x.suspects(0, 0, 29), 0);
        x.music(19, 19, 21);
        due("21: by LOUDNESS of that SECOND", x.suspects(19, 0, 29), 3);
        due("21: just these heads", Halls.six().suspects(0, 20, 64), 1);
        due("21: no more of them", Halls.six().suspects(0, 20, 65), 0);
        due("21: these then, of 0 or of 1", Halls.six().suspects(0, 60, 65), 3);
    }

    private static void suspects21Refused() {
        for (int no : NO_SECONDS) {
            refused("21: SECOND " + no, INDEX, x -> x.suspects(no, 0, 1));
            refused("21: SECOND " + no + " before the rest", INDEX, x -> x.suspects(no, 64, 0));
            checks.refused("21: SECOND " + no + " of an empty hall", INDEX, Halls::empty, x -> x.suspects(no, 0, 1));
        }
        int[] noSets = {64, 127, -1, MIN, MAX};
        for (int no : noSets) {
            refused("21: heads " + no, ARGUMENT, x -> x.suspects(0, no, 1));
            checks.refused("21: heads " + no + " of an empty hall", ARGUMENT, Halls::empty, x -> x.suspects(0, no, 1));
        }
        for (int no : NO_VOLUMES) {
            refused("21: VOLUME " + no, ARGUMENT, x -> x.suspects(19, 63, no));
            refused("21: VOLUME " + no + " of nobody's heads", ARGUMENT, x -> x.suspects(0, 0, no));
        }
        checks.refused("21: heads of the one above", ARGUMENT, Halls::two, x -> x.suspects(0, 4, 1));
        checks.refused("21: heads of the first, nobody there", ARGUMENT, Halls::empty, x -> x.suspects(0, 1, 1));
    }

    // ---- promise 22

    private static void sound22() {
        due("22: nobody", Halls.empty().isSound(), true);
        due("22: one", Halls.one().isSound(), true);
        due("22: six", Halls.six().isSound(), true);
        due("22: something of everything", Halls.busy().isSound(), true);
        due("22: 60 NOISES", Halls.full().isSound(), true);
        due("22: as loud as can be", loudAll().isSound(), true);
        int[] loudnesses = {0, 8, 9, 10, 99};
        for (int loudness : loudnesses) {
            Quietpaper x = Halls.full();
            x.music(0, 19, loudness);
            due("22: LOUDNESS " + loudness, x.isSound(), true);
            x.music(0, 0, 0);
            x.music(19, 19, 99);
            due("22: LOUDNESS " + loudness + " between 0 and 99", x.isSound(), true);
        }
        Quietpaper joined = everySecond();
        checks.holds("22: 2 PIECES cost more than 20", joined.cost(0, 5, 2, 2) > joined.cost(0, 5, 20, 2));
        due("22: 2 PIECES may cost more", joined.isSound(), true);
        // An EAR of 9 just does not hear a VOLUME of LOUDNESS less 9, even on the next SEAT.
        Quietpaper x = Halls.empty();
        x.person(0, 0, 9);
        x.person(0, 1, 9);
        due("22: VOLUME LOUDNESS less 9", x.noise(0, 0, 11), 0);
        due("22: VOLUME LOUDNESS less 5", x.noise(0, 0, 15), 0);
        due("22: VOLUME LOUDNESS less 4", x.noise(0, 0, 16), 2);
        due("22: they fell", x.isSound(), true);
    }

    // ---- promise 23

    /** What the document lists, asked one by one. */
    private static List<Integer> listed(Quietpaper x) {
        List<Integer> all = new ArrayList<>();
        for (int what = 0; what < 8; what++) {
            all.add(x.hall(what));
        }
        for (int k = 0; k < 100; k++) {
            all.add(x.ofSecond(k / 5, k % 5));
        }
        int people = x.hall(0);
        for (int person = 0; person < people; person++) {
            for (int what = 0; what < 8; what++) {
                all.add(x.ofPerson(person, what));
            }
            all.add(x.cost(person, 7, 2, 0));
            all.add(x.cost(person, 5, 4, 2));
            all.add(x.loudest(person, 5, 2));
            for (int what = 0; what < 3; what++) {
                all.add(x.coughing(1 << person, what));
            }
        }
        for (int row = 0; row < 6; row++) {
            all.add(x.refund(row));
        }
        for (int what = 0; what < 3 && people > 0; what++) {
            all.add(x.coughing((1 << people) - 1, what));
        }
        all.add(x.isSound() ? 1 : 0);
        return all;
    }

    /** The number that d would be, if it did not wrap around. */
    private static BigInteger unwrapped(List<Integer> all) {
        BigInteger d = BigInteger.valueOf(9007);
        for (int v : all) {
            d = d.multiply(BigInteger.valueOf(31)).add(BigInteger.valueOf(v));
        }
        return d;
    }

    private static void digest23WithoutPeopleAndWithSix() {
        due("23: 115 numbers without PEOPLE", listed(Halls.empty()).size(), 8 + 100 + 6 + 1);
        due("23: 132 with one", listed(Halls.one()).size(), 115 + 14 + 3);
        due("23: 202 with six", listed(Halls.six()).size(), 115 + 6 * 14 + 3);
        asListed("nobody", Halls.empty());
        asListed("one", Halls.one());
        asListed("two", Halls.two());
        asListed("60 NOISES of one", Halls.twoWith(60));
        asListed("six", Halls.six());
        asListed("something of everything", Halls.busy());
        asListed("60 NOISES", Halls.full());
        asListed("as loud as can be", loudAll());
        asListed("every other SECOND loud", everySecond());
        asListed("three loud SECONDS", threeLoudSeconds());
    }

    /** WORK 7 costs nothing in 3 PIECES, 8 in 2 and 32 in one. */
    private static Quietpaper threeLoudSeconds() {
        Quietpaper x = Halls.two();
        for (int second = 0; second <= 10; second += 5) {
            x.music(second, second, 99);
        }
        int[] want = {32, 8, 0};
        for (int pieces = 1; pieces <= 3; pieces++) {
            due("17: WORK 7 in " + pieces, x.cost(0, 7, pieces, 0), want[pieces - 1]);
        }
        return x;
    }

    private static void asListed(String call, Quietpaper x) {
        BigInteger d = unwrapped(listed(x));
        checks.holds("23: the digest of " + call + " has to wrap around", d.bitLength() > 63);
        due("23: digest of " + call, x.digest(), d.longValue());
        due("23: digest of " + call + " again", x.digest(), d.longValue());
    }

    private static void digest23WrapsAround() {
        due("23: nobody", Halls.empty().digest(), EMPTY_DIGEST);
        BigInteger span = BigInteger.ONE.shiftLeft(64);
        boolean above = false;
        boolean below = false;
        for (int k = 0; k < 20; k++) {
            Quietpaper x = Halls.empty();
            x.music(k, k, 99 - k);
            BigInteger d = unwrapped(listed(x)).mod(span);
            d = d.bitLength() == 64 ? d.subtract(span) : d;
            due("23: wrapped around, " + k, BigInteger.valueOf(x.digest()), d);
            above |= x.digest() > 0;
            below |= x.digest() < 0;
        }
        checks.holds("23: some above 0", above);
        checks.holds("23: some below 0", below);
    }

    // ---- what an object is used for

    private static void theLastCallOf512() {
        Quietpaper x = Halls.busy();
        // The hall is made by 36 calls.
        for (int call = 37; call < 512; call++) {
            x.throat(5, 18);
        }
        due("23: the 512th call", x.digest(), Halls.busy().digest());
    }
}
