/** Promise by promise: ordinary inputs, the edges, and wrong inputs. The answers are worked out by hand. */
public final class PromiseTests {
    private static final Class<IndexOutOfBoundsException> INDEX = IndexOutOfBoundsException.class;
    private static final Class<IllegalArgumentException> ARGUMENT = IllegalArgumentException.class;
    private static final Class<IllegalStateException> STATE = IllegalStateException.class;
    private static final Checks checks = new Checks("PromiseTests");

    private PromiseTests() {
    }

    public static void main(String[] args) {
        promise1();
        promise2();
        promise3();
        promise4();
        promise5();
        promise6();
        promise7();
        promise7Papers();
        promise8();
        promise9();
        promise10();
        promise11();
        promise12();
        promise13();
        promise14();
        promise15();
        promise16();
        promise17();
        promise17Pieces();
        promise18();
        promise18Ties();
        promise19();
        promise20();
        promise21();
        promise22();
        promise23();
        checks.end();
    }

    private static void due(String call, Object got, Object want) {
        checks.due(call, got, want);
    }

    /** FAR of 0 and 1 is 1, of 0 and 2 is 4, of 1 and 2 is 5; the EARS are 0, 9 and 5. */
    private static Quietpaper three() {
        Quietpaper x = new Quietpaper();
        x.person(0, 0, 0);
        x.person(0, 1, 9);
        x.person(2, 0, 5);
        return x;
    }

    /** Two neighbours, both with EAR 0: the MIND of a crackle is VOLUME - 4 - LOUDNESS. */
    private static Quietpaper two() {
        Quietpaper x = new Quietpaper();
        x.person(0, 0, 0);
        x.person(0, 1, 0);
        return x;
    }

    private static Quietpaper withNoises(int count) {
        Quietpaper x = two();
        for (int k = 0; k < count; k++) {
            x.noise(0, 0, 100);
        }
        return x;
    }

    private static void promise1() {
        Quietpaper x = new Quietpaper();
        for (int what = 0; what < 8; what++) {
            due("1: hall(" + what + ")", x.hall(what), 0);
        }
        for (int second = 0; second < 20; second++) {
            due("1: ofSecond(" + second + ", 0)", x.ofSecond(second, 0), 20);
            for (int what = 1; what < 5; what++) {
                due("1: ofSecond(" + second + ", " + what + ")", x.ofSecond(second, what), 0);
            }
        }
        for (int row = 0; row < 6; row++) {
            due("1: refund(" + row + ")", x.refund(row), 0);
        }
        Quietpaper y = new Quietpaper();
        y.person(0, 0, 0);
        due("1: another hall stays empty", x.hall(0), 0);
    }

    private static void promise2() {
        Quietpaper x = three();
        due("2: music one second", x.music(5, 5, 99), 479);
        due("2: music all", x.music(0, 19, 1), 20);
        due("2: music some", x.music(3, 5, 50), 17 + 150);
        due("2: music the last", x.music(19, 19, 0), 16 + 150);
        due("2: music the first", x.music(0, 0, 99), 99 + 15 + 150);
        due("2: before from", x.ofSecond(2, 0), 1);
        due("2: from", x.ofSecond(3, 0), 50);
        due("2: to", x.ofSecond(5, 0), 50);
        due("2: behind to", x.ofSecond(6, 0), 1);
        checks.throwing("2: music(-1, 3, 5)", INDEX, x, () -> x.music(-1, 3, 5));
        checks.throwing("2: music(20, 20, 5)", INDEX, x, () -> x.music(20, 20, 5));
        checks.throwing("2: music(5, 4, 5)", INDEX, x, () -> x.music(5, 4, 5));
        checks.throwing("2: music(5, 20, 5)", INDEX, x, () -> x.music(5, 20, 5));
        checks.throwing("2: music(MIN, MAX, 5)", INDEX, x,
                () -> x.music(Integer.MIN_VALUE, Integer.MAX_VALUE, 5));
        checks.throwing("2: music(5, 4, 100)", INDEX, x, () -> x.music(5, 4, 100));
        checks.throwing("2: music(0, 5, 100)", ARGUMENT, x, () -> x.music(0, 5, 100));
        checks.throwing("2: music(0, 5, -1)", ARGUMENT, x, () -> x.music(0, 5, -1));
    }

    private static void promise3() {
        Quietpaper x = new Quietpaper();
        due("3: the first", x.person(5, 9, 9), 0);
        due("3: the second", x.person(0, 0, 0), 1);
        due("3: ROW", x.ofPerson(0, 0), 5);
        due("3: SEAT", x.ofPerson(0, 1), 9);
        due("3: EAR", x.ofPerson(0, 2), 9);
        due("3: not SOFT at first", x.ofPerson(0, 3), 0);
        due("3: LAST SECOND at first", x.ofPerson(0, 4), 19);
        checks.throwing("3: person(-1, 0, 0)", ARGUMENT, x, () -> x.person(-1, 0, 0));
        checks.throwing("3: person(6, 0, 0)", ARGUMENT, x, () -> x.person(6, 0, 0));
        checks.throwing("3: person(1, -1, 0)", ARGUMENT, x, () -> x.person(1, -1, 0));
        checks.throwing("3: person(1, 10, 0)", ARGUMENT, x, () -> x.person(1, 10, 0));
        checks.throwing("3: person(1, 0, -1)", ARGUMENT, x, () -> x.person(1, 0, -1));
        checks.throwing("3: person(1, 0, 10)", ARGUMENT, x, () -> x.person(1, 0, 10));
        checks.throwing("3: a seat that is taken", STATE, x, () -> x.person(5, 9, 0));
        checks.throwing("3: a seat that is taken, a wrong EAR", ARGUMENT, x, () -> x.person(5, 9, 10));
        due("3: the same ROW", x.person(5, 0, 0), 2);
        due("3: the same SEAT", x.person(1, 9, 0), 3);
        due("3: the fifth", x.person(2, 2, 2), 4);
        due("3: the sixth", x.person(2, 3, 2), 5);
        checks.throwing("3: a seventh", STATE, x, () -> x.person(3, 3, 3));
        checks.throwing("3: a seventh, wrong", ARGUMENT, x, () -> x.person(3, 10, 3));
        due("3: six are there", x.hall(0), 6);
    }

    private static void promise4() {
        Quietpaper x = two();
        due("4: not SOFT before", x.paper(0, true), false);
        due("4: SOFT now", x.ofPerson(0, 3), 1);
        due("4: the other not", x.ofPerson(1, 3), 0);
        due("4: SOFT before", x.paper(0, true), true);
        due("4: still SOFT before", x.paper(0, false), true);
        due("4: no more", x.paper(0, false), false);
        checks.throwing("4: paper(-1)", INDEX, x, () -> x.paper(-1, true));
        checks.throwing("4: paper(2)", INDEX, x, () -> x.paper(2, true));
        Quietpaper empty = new Quietpaper();
        checks.throwing("4: paper(0) of an empty hall", INDEX, empty, () -> empty.paper(0, true));
    }

    private static void promise5() {
        Quietpaper x = two();
        due("5: throat before", x.throat(1, 0), 19);
        due("5: throat then", x.throat(1, 7), 0);
        due("5: LAST SECOND", x.ofPerson(1, 4), 7);
        due("5: of the other", x.ofPerson(0, 4), 19);
        due("5: the greatest", x.throat(1, 19), 7);
        checks.throwing("5: throat(2, 0)", INDEX, x, () -> x.throat(2, 0));
        checks.throwing("5: throat(-1, 20)", INDEX, x, () -> x.throat(-1, 20));
        checks.throwing("5: throat(0, 20)", ARGUMENT, x, () -> x.throat(0, 20));
        checks.throwing("5: throat(0, -1)", ARGUMENT, x, () -> x.throat(0, -1));
    }

    private static void promise6() {
        Quietpaper x = three();
        // MINDS of 0's noise of 40 at 20: 1: 40 - 4 - 20 + 9 = 25, 2: 40 - 16 - 20 + 5 = 9.
        due("6: all others", x.noise(0, 0, 40), 6);
        due("6: the near one alone", x.noise(0, 1, 31), 2);
        due("6: MIND 0 of 2", x.noise(0, 2, 31), 2);
        due("6: MIND 1 of 2", x.noise(0, 3, 32), 6);
        due("6: nobody", x.noise(0, 4, 15), 0);
        due("6: MIND 1 of 1", x.noise(0, 5, 16), 2);
        due("6: whatever else fell", x.noise(0, 0, 15), 0);
        due("6: the loudest", x.noise(2, 19, 150), 3);
        due("6: the softest", x.noise(2, 19, 1), 0);
        due("6: so many fell", x.hall(1), 9);
        checks.throwing("6: noise(3, 0, 1)", INDEX, x, () -> x.noise(3, 0, 1));
        checks.throwing("6: noise(-1, 0, 0)", INDEX, x, () -> x.noise(-1, 0, 0));
        checks.throwing("6: noise(0, 20, 0)", INDEX, x, () -> x.noise(0, 20, 0));
        checks.throwing("6: noise(0, -1, 1)", INDEX, x, () -> x.noise(0, -1, 1));
        checks.throwing("6: noise(0, 0, 0)", ARGUMENT, x, () -> x.noise(0, 0, 0));
        checks.throwing("6: noise(0, 0, 151)", ARGUMENT, x, () -> x.noise(0, 0, 151));
        Quietpaper full = withNoises(59);
        due("6: the sixtieth", full.noise(1, 0, 100), 1);
        checks.throwing("6: one too many", STATE, full, () -> full.noise(0, 0, 1));
        checks.throwing("6: one too many, wrong VOLUME", ARGUMENT, full, () -> full.noise(0, 0, 0));
        checks.throwing("6: one too many, of nobody", INDEX, full, () -> full.noise(2, 0, 1));
        due("6: sixty", full.hall(1), 60);
    }

    private static void promise7() {
        Quietpaper x = two();
        x.music(4, 4, 30);
        x.music(9, 9, 40);
        // At PACE 3 (VOLUME 56) the MIND is 52 - LOUDNESS: 12 at 9, 22 at 4.
        due("7: COST", x.unwrap(0, 6, 2, 3), 34);
        due("7: NOISES", x.hall(1), 2);
        due("7: at 4", x.ofSecond(4, 1), 1);
        due("7: at 9", x.ofSecond(9, 1), 1);
        due("7: whose", x.ofSecond(9, 2), 1);
        due("7: VOLUME at 4", x.minds(1, 4), 22);
        due("7: VOLUME at 9", x.minds(1, 9), 12);
        due("7: more NOISES do not change COST", x.unwrap(0, 6, 2, 3), 34);
        due("7: by the other", x.unwrap(1, 1, 1, 1), 0);
        checks.throwing("7: unwrap(2, ..)", INDEX, x, () -> x.unwrap(2, 0, 0, 4));
        checks.throwing("7: unwrap(-1, ..)", INDEX, x, () -> x.unwrap(-1, 1, 1, 1));
        checks.throwing("7: WORK 0", ARGUMENT, x, () -> x.unwrap(0, 0, 1, 0));
        checks.throwing("7: WORK 13", ARGUMENT, x, () -> x.unwrap(0, 13, 1, 0));
        checks.throwing("7: no PIECES", ARGUMENT, x, () -> x.unwrap(0, 1, 0, 0));
        checks.throwing("7: 21 PIECES", ARGUMENT, x, () -> x.unwrap(0, 1, 21, 0));
        checks.throwing("7: PACE -1", ARGUMENT, x, () -> x.unwrap(0, 1, 1, -1));
        checks.throwing("7: PACE 4", ARGUMENT, x, () -> x.unwrap(0, 1, 1, 4));
        Quietpaper full = withNoises(48);
        due("7: just sixty", full.unwrap(0, 12, 1, 1), 12 * 8);
        due("7: sixty are there", full.hall(1), 60);
        Quietpaper over = withNoises(49);
        checks.throwing("7: sixty-one", STATE, over, () -> over.unwrap(0, 12, 1, 1));
        checks.throwing("7: sixty-one, wrong PACE", ARGUMENT, over, () -> over.unwrap(0, 12, 1, 4));
        due("7: none of them fell", over.hall(1), 49);
        Quietpaper first = withNoises(60);
        first.music(0, 0, 99);
        checks.throwing("7: the one at the first SECOND", STATE, first, () -> first.unwrap(0, 3, 1, 3));
    }

    private static void promise7Papers() {
        Quietpaper x = two();
        x.music(0, 19, 0);
        int[] loud = {32, 44, 56};
        int[] soft = {19, 26, 33};
        for (int pace = 1; pace <= 3; pace++) {
            x.paper(0, false);
            due("7: loud at " + pace, x.cost(0, pace, 1, pace), loud[pace - 1] - 4);
            x.paper(0, true);
            due("7: SOFT at " + pace, x.cost(0, pace, 1, pace), soft[pace - 1] - 4);
        }
        due("7: unwrapped softly", x.unwrap(0, 3, 1, 3), 29);
        x.paper(0, false);
        due("7: a NOISE that fell keeps its VOLUME", x.minds(1, x.hall(4) == 0 ? 19 : 0), 29);
        due("7: the last SECOND of several", x.ofSecond(19, 1), 1);
    }

    private static void promise8() {
        Quietpaper x = three();
        x.music(7, 7, 60);
        x.music(12, 12, 60);
        x.throat(0, 11);
        due("8: TOGETHER", x.cough(7), 7);
        due("8: three NOISES", x.ofSecond(7, 1), 3);
        due("8: of all", x.ofSecond(7, 2), 7);
        due("8: VOLUME", x.minds(1, 7), 5);
        x.throat(1, 6);
        due("8: before", x.cough(3), 0);
        due("8: one alone may wait", x.cough(4), 7);
        x.throat(2, 0);
        due("8: at once", x.cough(6), 0);
        checks.throwing("8: nobody", ARGUMENT, x, () -> x.cough(0));
        checks.throwing("8: somebody who is not there", ARGUMENT, x, () -> x.cough(8));
        checks.throwing("8: -1", ARGUMENT, x, () -> x.cough(-1));
        checks.throwing("8: MIN", ARGUMENT, x, () -> x.cough(Integer.MIN_VALUE));
        checks.throwing("8: 9", ARGUMENT, x, () -> x.cough(9));
        Quietpaper full = withNoises(58);
        due("8: just sixty", full.cough(3), 0);
        checks.throwing("8: sixty-one", STATE, full, () -> full.cough(1));
        checks.throwing("8: sixty-one, nobody", ARGUMENT, full, () -> full.cough(0));
        Quietpaper over = withNoises(59);
        checks.throwing("8: two more", STATE, over, () -> over.cough(3));
        due("8: none fell", over.hall(1), 59);
        due("8: one fits", over.cough(2), 0);
    }

    private static void promise9() {
        Quietpaper x = withNoises(60);
        x.throat(0, 3);
        x.paper(1, true);
        x.music(0, 0, 50);
        x.knock();
        due("9: sixty", x.evening(), 60);
        due("9: none", x.evening(), 0);
        due("9: none are there", x.hall(1), 0);
        due("9: no SCORES", x.hall(2), 0);
        due("9: none at the SECOND", x.ofSecond(0, 1), 0);
        due("9: the people stay", x.hall(0), 2);
        due("9: LAST SECOND stays", x.ofPerson(0, 4), 3);
        due("9: paper stays", x.ofPerson(1, 3), 1);
        due("9: LOUDNESS stays", x.ofSecond(0, 0), 50);
        due("9: REFUSED stays", x.hall(7), 1);
        due("9: a NOISE falls again", x.noise(0, 0, 100), 2);
        due("9: one", x.evening(), 1);
    }

    private static void promise10() {
        Quietpaper x = new Quietpaper();
        for (int k = 1; k <= 20; k++) {
            due("10: knock()", x.knock(), k);
        }
        due("10: REFUSED", x.hall(7), 20);
        due("10: nobody came in", x.hall(0), 0);
    }

    private static void promise11() {
        Quietpaper x = three();
        x.noise(0, 5, 40);
        x.noise(0, 5, 31);
        x.noise(2, 5, 50);
        // MINDS: 0: 50 - 16 - 20 = 14 of 2; 1: 25, 16 of 0 and 50 - 20 - 20 + 9 = 19 of 2; 2: 9 of 0.
        due("11: LOUDNESS", x.ofSecond(5, 0), 20);
        due("11: NOISES", x.ofSecond(5, 1), 3);
        due("11: who made them", x.ofSecond(5, 2), 5);
        due("11: HEADS", x.ofSecond(5, 3), 7);
        due("11: the sum", x.ofSecond(5, 4), 14 + 25 + 9);
        due("11: none elsewhere", x.ofSecond(6, 1), 0);
        x.music(5, 5, 25);
        due("11: 4 turns no head", x.ofSecond(5, 3), 3);
        x.music(5, 5, 24);
        due("11: 5 turns a head", x.ofSecond(5, 3), 7);
        due("11: LOUDNESS now", x.ofSecond(5, 0), 24);
        due("11: the sum now", x.ofSecond(5, 4), 10 + 21 + 5);
        checks.throwing("11: ofSecond(20, 5)", INDEX, x, () -> x.ofSecond(20, 5));
        checks.throwing("11: ofSecond(-1, 0)", INDEX, x, () -> x.ofSecond(-1, 0));
        checks.throwing("11: ofSecond(0, 5)", ARGUMENT, x, () -> x.ofSecond(0, 5));
        checks.throwing("11: ofSecond(0, -1)", ARGUMENT, x, () -> x.ofSecond(0, -1));
    }

    private static void promise12() {
        Quietpaper x = three();
        x.paper(2, true);
        x.throat(2, 4);
        x.noise(0, 5, 40);
        x.noise(0, 5, 31);
        x.noise(2, 5, 50);
        x.noise(2, 6, 45);
        int[] due = {2, 0, 5, 1, 4, 9, 2, 14 + 19 + 9 + 14};
        for (int what = 0; what < 8; what++) {
            due("12: ofPerson(2, " + what + ")", x.ofPerson(2, what), due[what]);
        }
        due("12: NOISES of 0", x.ofPerson(0, 6), 2);
        due("12: SCORE of 1", x.ofPerson(1, 5), 25 + 14);
        due("12: not the greatest alone", x.ofPerson(0, 7), 25 + 9 + 16);
        due("12: no NOISES of 1", x.ofPerson(1, 6), 0);
        due("12: nobody minds them", x.ofPerson(1, 7), 0);
        checks.throwing("12: ofPerson(3, 8)", INDEX, x, () -> x.ofPerson(3, 8));
        checks.throwing("12: ofPerson(-1, 0)", INDEX, x, () -> x.ofPerson(-1, 0));
        checks.throwing("12: ofPerson(0, 8)", ARGUMENT, x, () -> x.ofPerson(0, 8));
        checks.throwing("12: ofPerson(0, -1)", ARGUMENT, x, () -> x.ofPerson(0, -1));
    }

    private static void promise13() {
        Quietpaper x = three();
        due("13: nothing fell", x.minds(0, 0), 0);
        x.noise(1, 0, 50);
        due("13: one NOISE", x.minds(0, 0), 26);
        x.noise(2, 0, 50);
        due("13: the greatest", x.minds(0, 0), 26);
        x.noise(2, 0, 63);
        due("13: a greater one", x.minds(0, 0), 27);
        x.noise(0, 0, 150);
        due("13: not the own", x.minds(0, 0), 27);
        x.person(0, 2, 3);
        due("13: who comes later minds as well", x.minds(3, 0), 150 - 8 - 20 + 3);
        x.music(0, 0, 99);
        due("13: 0 at least", x.minds(0, 0), 0);
        due("13: at another SECOND", x.minds(0, 1), 0);
        checks.throwing("13: minds(4, 0)", INDEX, x, () -> x.minds(4, 0));
        checks.throwing("13: minds(-1, 0)", INDEX, x, () -> x.minds(-1, 0));
        checks.throwing("13: minds(0, 20)", INDEX, x, () -> x.minds(0, 20));
        checks.throwing("13: minds(0, -1)", INDEX, x, () -> x.minds(0, -1));
    }

    private static void promise14() {
        Quietpaper x = two();
        x.person(5, 0, 0);
        due("14: nothing", x.refund(0), 0);
        x.noise(0, 0, 34);
        due("14: just 10", x.refund(0), 1);
        x.noise(0, 1, 25);
        due("14: 11, rounded up", x.refund(0), 2);
        x.noise(1, 2, 33);
        due("14: both together 20", x.refund(0), 2);
        x.noise(1, 3, 25);
        due("14: both together 21", x.refund(0), 3);
        due("14: another ROW", x.refund(5), 0);
        due("14: a ROW without PEOPLE", x.refund(3), 0);
        checks.throwing("14: refund(6)", INDEX, x, () -> x.refund(6));
        checks.throwing("14: refund(-1)", INDEX, x, () -> x.refund(-1));
    }

    private static void promise15() {
        Quietpaper x = three();
        x.noise(0, 5, 40);
        x.noise(2, 7, 50);
        x.noise(1, 9, 21);
        x.knock();
        x.music(11, 12, 30);
        // SCORES: 0: 14, 1: 25 + 19, 2: 9. Paid back: 58 / 10 up is 6, 9 / 10 up is 1.
        int[] due = {3, 3, 67, 44, 11, 7, 2, 1};
        for (int what = 0; what < 8; what++) {
            due("15: hall(" + what + ")", x.hall(what), due[what]);
        }
        x.music(1, 1, 31);
        due("15: the loudest SECOND", x.hall(4), 1);
        x.noise(0, 0, 100);
        x.noise(0, 19, 100);
        due("15: HEADS at the first and the last SECOND", x.hall(6), 4);
        checks.throwing("15: hall(8)", ARGUMENT, x, () -> x.hall(8));
        checks.throwing("15: hall(-1)", ARGUMENT, x, () -> x.hall(-1));
    }

    private static void promise16() {
        Quietpaper x = three();
        due("16: of both", x.would(0, 0, 40), 34);
        due("16: of 1 alone", x.would(0, 0, 31), 16);
        due("16: of nobody", x.would(0, 0, 15), 0);
        due("16: the greatest VOLUME", x.would(2, 19, 150), 150 - 16 - 20 + 150 - 20 - 20 + 9);
        due("16: the least VOLUME", x.would(0, 0, 1), 0);
        Quietpaper y = new Quietpaper();
        y.person(2, 3, 0);
        y.person(1, 7, 0);
        due("16: FAR of 6", y.would(0, 0, 50), 50 - 24 - 20);
        due("16: FAR of 6 the other way", y.would(1, 0, 50), 50 - 24 - 20);
        due("16: nothing fell", x.hall(1), 0);
        x.noise(0, 0, 150);
        due("16: NOISES do not matter", x.would(0, 0, 40), 34);
        due("16: alone in the hall", alone().would(0, 0, 150), 0);
        checks.throwing("16: would(3, 0, 0)", INDEX, x, () -> x.would(3, 0, 0));
        checks.throwing("16: would(-1, 0, 1)", INDEX, x, () -> x.would(-1, 0, 1));
        checks.throwing("16: would(0, 20, 0)", INDEX, x, () -> x.would(0, 20, 0));
        checks.throwing("16: would(0, -1, 1)", INDEX, x, () -> x.would(0, -1, 1));
        checks.throwing("16: would(0, 0, 0)", ARGUMENT, x, () -> x.would(0, 0, 0));
        checks.throwing("16: would(0, 0, 151)", ARGUMENT, x, () -> x.would(0, 0, 151));
    }

    private static Quietpaper alone() {
        Quietpaper x = new Quietpaper();
        x.person(0, 0, 0);
        return x;
    }

    private static void promise17() {
        Quietpaper x = two();
        // The MINDS at LOUDNESS 20: 8 at PACE 1, 20 at 2, 32 at 3.
        due("17: WORK 1", x.cost(0, 1, 1, 0), 8);
        due("17: WORK 3 slowly", x.cost(0, 3, 1, 0), 24);
        due("17: WORK 3 at 2", x.cost(0, 3, 1, 2), 40);
        due("17: WORK 3 at 3", x.cost(0, 3, 1, 3), 32);
        due("17: WORK 4 at 3", x.cost(0, 4, 1, 3), 64);
        due("17: WORK 12", x.cost(0, 12, 20, 0), 96);
        due("17: nothing fell", x.hall(1), 0);
        x.noise(0, 0, 150);
        due("17: alone, without NOISES", x.cost(0, 1, 1, 0), 8);
        due("17: nobody else", alone().cost(0, 12, 1, 0), 0);
        checks.throwing("17: cost(2, ..)", INDEX, x, () -> x.cost(2, 0, 0, 4));
        checks.throwing("17: cost(-1, ..)", INDEX, x, () -> x.cost(-1, 1, 1, 1));
        checks.throwing("17: WORK 0", ARGUMENT, x, () -> x.cost(0, 0, 1, 0));
        checks.throwing("17: WORK 13", ARGUMENT, x, () -> x.cost(0, 13, 1, 0));
        checks.throwing("17: no PIECES", ARGUMENT, x, () -> x.cost(0, 1, 0, 0));
        checks.throwing("17: 21 PIECES", ARGUMENT, x, () -> x.cost(0, 1, 21, 0));
        checks.throwing("17: PACE -1", ARGUMENT, x, () -> x.cost(0, 1, 1, -1));
        checks.throwing("17: PACE 4", ARGUMENT, x, () -> x.cost(0, 1, 1, 4));
    }

    private static void promise17Pieces() {
        Quietpaper x = two();
        for (int second = 0; second < 20; second += 2) {
            x.music(second, second, 99);
        }
        // Ten loud SECONDS with a still one between any two.
        due("17: ten PIECES", x.cost(0, 10, 10, 1), 0);
        due("17: twenty PIECES", x.cost(0, 10, 20, 1), 0);
        due("17: nine PIECES", x.cost(0, 10, 9, 1), 8);
        due("17: two PIECES", x.cost(0, 10, 2, 1), 32);
        due("17: one PIECE", x.cost(0, 10, 1, 1), 40);
        due("17: one PIECE at 3", x.cost(0, 10, 1, 3), 64);
        due("17: one PIECE at all", x.cost(0, 10, 1, 0), 16);
    }

    private static void promise18() {
        Quietpaper x = two();
        x.music(5, 5, 60);
        x.music(8, 8, 60);
        x.music(9, 9, 40);
        // PACE 1 and 2 cost nothing at 5, 8 and 9, and 3 nothing at 5 and 8; elsewhere PACE 1 costs 8.
        due("18: the smaller PACE first", x.plan(0, 3, 1, 0), "........12..........");
        due("18: two PIECES", x.plan(0, 6, 2, 0), ".....1..32..........");
        due("18: one PIECE", x.plan(0, 6, 1, 0), "........321.........");
        due("18: one PIECE, more", x.plan(0, 7, 1, 0), "........3211........");
        due("18: at PACE 3", x.plan(0, 6, 2, 3), ".....3..3...........");
        due("18: at PACE 3 in one PIECE", x.plan(0, 6, 1, 3), "........33..........");
        due("18: at PACE 2", x.plan(0, 3, 1, 2), "........22..........");
        due("18: at PACE 1", x.plan(0, 1, 1, 1), ".........1..........");
        due("18: nothing fell", x.hall(1), 0);
        due("18: nobody else", alone().plan(0, 12, 1, 0), "................3333");
        checks.throwing("18: plan(2, ..)", INDEX, x, () -> x.plan(2, 0, 0, 4));
        checks.throwing("18: plan(-1, ..)", INDEX, x, () -> x.plan(-1, 1, 1, 1));
        checks.throwing("18: WORK 0", ARGUMENT, x, () -> x.plan(0, 0, 1, 0));
        checks.throwing("18: WORK 13", ARGUMENT, x, () -> x.plan(0, 13, 1, 0));
        checks.throwing("18: no PIECES", ARGUMENT, x, () -> x.plan(0, 1, 0, 0));
        checks.throwing("18: 21 PIECES", ARGUMENT, x, () -> x.plan(0, 1, 21, 0));
        checks.throwing("18: PACE -1", ARGUMENT, x, () -> x.plan(0, 1, 1, -1));
        checks.throwing("18: PACE 4", ARGUMENT, x, () -> x.plan(0, 1, 1, 4));
    }

    private static void promise18Ties() {
        Quietpaper x = two();
        due("18: the last of as good ones", x.plan(0, 2, 1, 0), "..................11");
        due("18: at PACE 2", x.plan(0, 5, 20, 2), ".................222");
        x.music(0, 19, 99);
        due("18: all cost nothing", x.plan(0, 4, 1, 0), "..................13");
        due("18: all cost nothing at PACE 1", x.plan(0, 12, 20, 1), "........111111111111");
        due("18: more than the WORK", x.plan(0, 5, 1, 3), "..................33");
    }

    private static void promise19() {
        Quietpaper x = two();
        x.music(5, 5, 60);
        x.music(8, 8, 50);
        x.music(11, 12, 40);
        // At PACE 3 the MIND is 52 - LOUDNESS, at 2 40 - LOUDNESS, at 1 28 - LOUDNESS.
        due("19: the least WORK", x.loudest(0, 1, 1), 0);
        due("19: one SECOND", x.loudest(0, 3, 3), 0);
        due("19: two SECONDS", x.loudest(0, 4, 3), 2);
        due("19: just two", x.loudest(0, 6, 3), 2);
        due("19: three", x.loudest(0, 7, 3), 14);
        due("19: four", x.loudest(0, 12, 3), 26);
        due("19: five at 2", x.loudest(0, 9, 2), 20);
        due("19: twelve at 1", x.loudest(0, 12, 1), 64);
        x.paper(0, true);
        due("19: SOFT", x.loudest(0, 12, 1), 0);
        x.music(0, 19, 10);
        due("19: all as loud", x.loudest(0, 12, 1), 60);
        checks.throwing("19: loudest(2, ..)", INDEX, x, () -> x.loudest(2, 0, 0));
        checks.throwing("19: loudest(-1, ..)", INDEX, x, () -> x.loudest(-1, 1, 1));
        checks.throwing("19: WORK 0", ARGUMENT, x, () -> x.loudest(0, 0, 1));
        checks.throwing("19: WORK 13", ARGUMENT, x, () -> x.loudest(0, 13, 1));
        checks.throwing("19: PACE 0", ARGUMENT, x, () -> x.loudest(0, 1, 0));
        checks.throwing("19: PACE 4", ARGUMENT, x, () -> x.loudest(0, 1, 4));
    }

    private static void promise20() {
        Quietpaper x = three();
        x.music(3, 3, 30);
        x.music(9, 10, 50);
        x.throat(0, 5);
        // Coughs at LOUDNESS 30: of 0 minds 1 35, 2 19; of 1 minds 0 26, 2 15; of 2 minds 0 14, 1 19.
        due("20: 0 alone", x.coughing(1, 0), 3);
        due("20: 0 alone, sum", x.coughing(1, 1), 54);
        due("20: 0 alone, APART", x.coughing(1, 2), 54);
        due("20: all TOGETHER", x.coughing(7, 0), 3);
        due("20: all TOGETHER, sum", x.coughing(7, 1), 26 + 35 + 19);
        // APART 1 and 2 wait for the LOUDNESS of 50 at 9: 6 of 0; none.
        due("20: 1 alone", x.coughing(2, 0), 9);
        due("20: 1 alone, sum", x.coughing(2, 1), 6);
        due("20: 2 alone, sum", x.coughing(4, 1), 0);
        due("20: all APART", x.coughing(7, 2), 54 + 6);
        due("20: 1 and 2 TOGETHER", x.coughing(6, 0), 9);
        x.throat(0, 9);
        due("20: the LAST SECOND itself", x.coughing(1, 0), 9);
        x.throat(0, 19);
        x.music(19, 19, 60);
        due("20: the very last SECOND", x.coughing(1, 0), 19);
        x.music(19, 19, 20);
        x.music(1, 1, 50);
        due("20: the second SECOND", x.coughing(1, 0), 1);
        x.music(0, 0, 50);
        due("20: the first of as good ones", x.coughing(1, 0), 0);
        x.music(0, 1, 20);
        x.throat(0, 0);
        due("20: at once", x.coughing(7, 0), 0);
        due("20: nothing fell", x.hall(1), 0);
        x.noise(0, 9, 150);
        due("20: by these coughs alone", x.coughing(2, 1), 6);
        checks.throwing("20: nobody", ARGUMENT, x, () -> x.coughing(0, 0));
        checks.throwing("20: who is not there", ARGUMENT, x, () -> x.coughing(8, 0));
        checks.throwing("20: -1", ARGUMENT, x, () -> x.coughing(-1, 0));
        checks.throwing("20: what -1", ARGUMENT, x, () -> x.coughing(1, -1));
        checks.throwing("20: what 3", ARGUMENT, x, () -> x.coughing(1, 3));
        Quietpaper empty = new Quietpaper();
        checks.throwing("20: an empty hall", ARGUMENT, empty, () -> empty.coughing(1, 0));
        checks.throwing("20: an empty hall, nobody", ARGUMENT, empty, () -> empty.coughing(0, 0));
    }

    private static void promise21() {
        Quietpaper x = three();
        // A noise of 40 at 20: of 0 mind 1 25, 2 9; of 1 mind 0 16, 2 5; of 2 mind 0 4, 1 9.
        due("21: both others of 0", x.suspects(0, 6, 40), 1);
        due("21: both others of 1", x.suspects(0, 5, 40), 2);
        due("21: 1 alone", x.suspects(0, 2, 40), 4);
        due("21: the own head", x.suspects(0, 7, 40), 0);
        due("21: nobody heard that", x.suspects(0, 0, 40), 0);
        due("21: of 39 2 does not turn", x.suspects(0, 1, 39), 2);
        due("21: so still that it can have been all", x.suspects(0, 0, 1), 7);
        x.noise(0, 0, 150);
        due("21: that VOLUME alone", x.suspects(0, 2, 40), 4);
        x.music(0, 0, 21);
        due("21: LOUDNESS", x.suspects(0, 1, 40), 2);
        due("21: LOUDNESS elsewhere", x.suspects(1, 5, 40), 2);
        checks.throwing("21: suspects(20, 8, 0)", INDEX, x, () -> x.suspects(20, 8, 0));
        checks.throwing("21: suspects(-1, 0, 1)", INDEX, x, () -> x.suspects(-1, 0, 1));
        checks.throwing("21: heads 8", ARGUMENT, x, () -> x.suspects(0, 8, 1));
        checks.throwing("21: heads -1", ARGUMENT, x, () -> x.suspects(0, -1, 1));
        checks.throwing("21: VOLUME 0", ARGUMENT, x, () -> x.suspects(0, 0, 0));
        checks.throwing("21: VOLUME 151", ARGUMENT, x, () -> x.suspects(0, 0, 151));
        Quietpaper empty = new Quietpaper();
        due("21: an empty hall", empty.suspects(0, 0, 1), 0);
        checks.throwing("21: an empty hall, heads 1", ARGUMENT, empty, () -> empty.suspects(0, 1, 1));
    }

    private static void promise22() {
        due("22: an empty hall", new Quietpaper().isSound(), true);
        due("22: alone", alone().isSound(), true);
        Quietpaper x = three();
        due("22: nothing fell", x.isSound(), true);
        x.music(4, 9, 99);
        x.music(12, 15, 0);
        x.paper(1, true);
        x.noise(0, 3, 150);
        x.unwrap(1, 12, 3, 0);
        x.cough(7);
        due("22: much fell", x.isSound(), true);
    }

    private static void promise23() {
        long d = 9007;
        for (int k = 0; k < 8; k++) {
            d = d * 31;
        }
        for (int second = 0; second < 20; second++) {
            d = (d * 31 + 20) * 31 * 31 * 31 * 31;
        }
        for (int row = 0; row < 6; row++) {
            d = d * 31;
        }
        due("23: an empty hall", new Quietpaper().digest(), d * 31 + 1);
        due("23: nobody else", alone().digest(), digestAlone());
        Quietpaper x = three();
        x.noise(0, 3, 150);
        long before = x.digest();
        due("23: nothing is changed", x.digest(), before);
        x.knock();
        checks.holds("23: it tells of a knock", x.digest() != before);
    }

    private static long digestAlone() {
        long d = 9007;
        int[] hall = {1, 0, 0, 0, 0, 0, 0, 0};
        for (int v : hall) {
            d = d * 31 + v;
        }
        for (int second = 0; second < 20; second++) {
            d = (d * 31 + 20) * 31 * 31 * 31 * 31;
        }
        // ofPerson(), the two cost(), loudest(), coughing() alone; refund(); coughing() of all; isSound()
        int[] rest = {0, 0, 0, 0, 19, 0, 0, 0, 0, 0, 0, 0, 0, 0, 0, 0, 0, 0, 0, 0, 0, 0, 0, 1};
        for (int v : rest) {
            d = d * 31 + v;
        }
        return d;
    }
}
