/** Halls that tests begin with. */
final class Halls {
    private Halls() {
    }

    static Quietpaper empty() {
        return new Quietpaper();
    }

    static Quietpaper one() {
        Quietpaper x = new Quietpaper();
        x.person(0, 0, 0);
        return x;
    }

    /** Two neighbours, both with EAR 0: the MIND of a noise is VOLUME - 4 - LOUDNESS, of a cough at first 36. */
    static Quietpaper two() {
        Quietpaper x = one();
        x.person(0, 1, 0);
        return x;
    }

    /**
     * As many people as can be. FAR of 0 and 1 is 19, of 0 and 2 9, of 0 and 3 10, of 0 and 4 8, of 0 and 5 11,
     * of 1 and 2 10, of 1 and 3 9, of 1 and 4 11, of 1 and 5 8, of 2 and 3 19, of 2 and 4 9, of 2 and 5 10,
     * of 3 and 4 10, of 3 and 5 9, of 4 and 5 3.
     */
    static Quietpaper six() {
        Quietpaper x = new Quietpaper();
        x.person(0, 0, 0);
        x.person(5, 9, 9);
        x.person(0, 9, 9);
        x.person(5, 0, 0);
        x.person(2, 4, 5);
        x.person(3, 5, 4);
        return x;
    }

    /** Six, and something of everything, so that no change can hide. */
    static Quietpaper busy() {
        Quietpaper x = six();
        x.music(2, 6, 44);
        x.music(11, 11, 99);
        x.music(17, 19, 3);
        x.paper(1, true);
        x.paper(4, true);
        x.throat(0, 0);
        x.throat(3, 12);
        x.throat(5, 18);
        for (int k = 0; k < 20; k++) {
            x.noise(k % 6, k, 60 + 4 * k);
        }
        x.knock();
        x.knock();
        return x;
    }

    /** Busy, with as many NOISES as are told. */
    static Quietpaper busyWith(int noises) {
        Quietpaper x = busy();
        for (int k = x.hall(1); k < noises; k++) {
            x.noise(k % 5, k % 20, 40 + k);
        }
        return x;
    }

    static Quietpaper full() {
        return busyWith(60);
    }

    /** Two neighbours, and NOISES of 0 with VOLUME 100 at SECOND 0. */
    static Quietpaper twoWith(int noises) {
        Quietpaper x = two();
        for (int k = 0; k < noises; k++) {
            x.noise(0, 0, 100);
        }
        return x;
    }
}
