/** A hall in which a sweet must be unwrapped. The words in the comments are those of the document. */
public final class Quietpaper {
    private static final int SECONDS = 20;
    private static final int ROWS = 6;
    private static final int SEATS = 10;
    private static final int MOST_PEOPLE = 6;
    private static final int MOST_NOISES = 60;
    private static final int MOST_EAR = 9;
    private static final int MOST_LOUDNESS = 99;
    private static final int FIRST_LOUDNESS = 20;
    private static final int MOST_VOLUME = 150;
    private static final int COUGH_VOLUME = 60;
    private static final int LEAST_OF_HEADS = 5;
    private static final int MOST_WORK = 12;
    private static final int MOST_PIECES = 20;
    private static final int MOST_PACE = 3;
    private static final int ANY_PACE = 0;
    private static final int SECOND_QUESTIONS = 5;
    private static final int PERSON_QUESTIONS = 8;
    private static final int HALL_QUESTIONS = 8;
    private static final int COUGH_QUESTIONS = 3;
    private static final long FIRST_DIGEST = 9007;

    private final int[] loudnessOf = new int[SECONDS];

    private int seated = 0;
    private final int[] rowOf = new int[MOST_PEOPLE];
    private final int[] seatOf = new int[MOST_PEOPLE];
    private final int[] earOf = new int[MOST_PEOPLE];
    private final boolean[] isSoftOf = new boolean[MOST_PEOPLE];
    private final int[] lastOf = new int[MOST_PEOPLE];
    private final int[][] farOf = new int[MOST_PEOPLE][MOST_PEOPLE];

    private int noises = 0;
    private final int[] makerOf = new int[MOST_NOISES];
    private final int[] secondOf = new int[MOST_NOISES];
    private final int[] volumeOf = new int[MOST_NOISES];

    private int refused = 0;

    private final Planner planner = new Planner();
    private final char[] planText = new char[SECONDS];

    public Quietpaper() {
        for (int second = 0; second < SECONDS; second++) {
            loudnessOf[second] = FIRST_LOUDNESS;
        }
    }

    // ---- the piece and the people

    public int music(int from, int to, int loudness) throws IndexOutOfBoundsException, IllegalArgumentException {
        needSecond(from);
        needSecond(to);
        if (to < from) {
            throw new IndexOutOfBoundsException("the last second is before the first");
        }
        needWithin(loudness, 0, MOST_LOUDNESS);
        for (int second = from; second <= to; second++) {
            loudnessOf[second] = loudness;
        }
        return sumOfLoudnesses();
    }

    public int person(int row, int seat, int ear) throws IllegalArgumentException, IllegalStateException {
        needWithin(row, 0, ROWS - 1);
        needWithin(seat, 0, SEATS - 1);
        needWithin(ear, 0, MOST_EAR);
        if (seated >= MOST_PEOPLE) {
            throw new IllegalStateException("the hall is full");
        }
        if (isTaken(row, seat)) {
            throw new IllegalStateException("the seat is taken");
        }
        int number = seated;
        seated++;
        rowOf[number] = row;
        seatOf[number] = seat;
        earOf[number] = ear;
        isSoftOf[number] = false;
        lastOf[number] = SECONDS - 1;
        measureFar(number);
        return number;
    }

    public boolean paper(int person, boolean isSoft) throws IndexOutOfBoundsException {
        needPerson(person);
        boolean wasSoft = isSoftOf[person];
        isSoftOf[person] = isSoft;
        return wasSoft;
    }

    public int throat(int person, int last) throws IndexOutOfBoundsException, IllegalArgumentException {
        needPerson(person);
        needWithin(last, 0, SECONDS - 1);
        int before = lastOf[person];
        lastOf[person] = last;
        return before;
    }

    // ---- noises

    public int noise(int person, int second, int volume)
            throws IndexOutOfBoundsException, IllegalArgumentException, IllegalStateException {
        needPerson(person);
        needSecond(second);
        needWithin(volume, 1, MOST_VOLUME);
        needRoomFor(1);
        addNoise(person, second, volume);
        return setWhoMind(person, second, volume, 1);
    }

    public int unwrap(int person, int work, int pieces, int pace)
            throws IndexOutOfBoundsException, IllegalArgumentException, IllegalStateException {
        needSweet(person, work, pieces, pace);
        long key = bestKey(person, work, pieces, pace);
        needRoomFor(cracklesIn(key));
        for (int second = 0; second < SECONDS; second++) {
            int paceThen = Planner.paceIn(key, second);
            if (paceThen > 0) {
                addNoise(person, second, crackleVolume(person, paceThen));
            }
        }
        return Planner.costIn(key);
    }

    public int cough(int people) throws IllegalArgumentException, IllegalStateException {
        needSomePeople(people);
        needRoomFor(Integer.bitCount(people));
        int second = bestSecond(people);
        for (int person = 0; person < seated; person++) {
            if (holds(people, person)) {
                addNoise(person, second, COUGH_VOLUME);
            }
        }
        return second;
    }

    public int evening() {
        int before = noises;
        noises = 0;
        return before;
    }

    public int knock() {
        refused++;
        return refused;
    }

    // ---- what is asked

    public int ofSecond(int second, int what) throws IndexOutOfBoundsException, IllegalArgumentException {
        needSecond(second);
        needWithin(what, 0, SECOND_QUESTIONS - 1);
        switch (what) {
            case 0:
                return loudnessOf[second];
            case 1:
                return noisesAt(second);
            case 2:
                return makersAt(second);
            case 3:
                return headsAt(second);
            default:
                return mindedByAllAt(second);
        }
    }

    public int ofPerson(int person, int what) throws IndexOutOfBoundsException, IllegalArgumentException {
        needPerson(person);
        needWithin(what, 0, PERSON_QUESTIONS - 1);
        switch (what) {
            case 0:
                return rowOf[person];
            case 1:
                return seatOf[person];
            case 2:
                return earOf[person];
            case 3:
                return isSoftOf[person] ? 1 : 0;
            case 4:
                return lastOf[person];
            case 5:
                return scoreOf(person);
            case 6:
                return ownNoises(person);
            default:
                return mindsOfOwnNoises(person);
        }
    }

    public int minds(int person, int second) throws IndexOutOfBoundsException {
        needPerson(person);
        needSecond(second);
        return mindedBy(person, second);
    }

    public int refund(int row) throws IndexOutOfBoundsException {
        if (row < 0 || row >= ROWS) {
            throw new IndexOutOfBoundsException("no such row");
        }
        return paidBackTo(row);
    }

    public int hall(int what) throws IllegalArgumentException {
        needWithin(what, 0, HALL_QUESTIONS - 1);
        switch (what) {
            case 0:
                return seated;
            case 1:
                return noises;
            case 2:
                return sumOfScores();
            case 3:
                return greatestScore();
            case 4:
                return loudestSecond();
            case 5:
                return allPaidBack();
            case 6:
                return secondsWithHeads();
            default:
                return refused;
        }
    }

    // ---- what would be

    public int would(int person, int second, int volume) throws IndexOutOfBoundsException, IllegalArgumentException {
        needPerson(person);
        needSecond(second);
        needWithin(volume, 1, MOST_VOLUME);
        return mindedByOthers(person, second, volume);
    }

    public int cost(int person, int work, int pieces, int pace)
            throws IndexOutOfBoundsException, IllegalArgumentException {
        needSweet(person, work, pieces, pace);
        return Planner.costIn(bestKey(person, work, pieces, pace));
    }

    public String plan(int person, int work, int pieces, int pace)
            throws IndexOutOfBoundsException, IllegalArgumentException {
        needSweet(person, work, pieces, pace);
        long key = bestKey(person, work, pieces, pace);
        for (int second = 0; second < SECONDS; second++) {
            int paceThen = Planner.paceIn(key, second);
            planText[second] = paceThen == 0 ? '.' : (char) ('0' + paceThen);
        }
        return new String(planText);
    }

    public int loudest(int person, int work, int pace) throws IndexOutOfBoundsException, IllegalArgumentException {
        needPerson(person);
        needWithin(work, 1, MOST_WORK);
        needWithin(pace, 1, MOST_PACE);
        return mindedAtLoudest(person, work, pace);
    }

    public int coughing(int people, int what) throws IllegalArgumentException {
        needSomePeople(people);
        needWithin(what, 0, COUGH_QUESTIONS - 1);
        if (what == 2) {
            return mindedApart(people);
        }
        int second = bestSecond(people);
        return what == 0 ? second : mindedOfCoughs(people, second);
    }

    public int suspects(int second, int heads, int volume) throws IndexOutOfBoundsException, IllegalArgumentException {
        needSecond(second);
        needPeople(heads);
        needWithin(volume, 1, MOST_VOLUME);
        int set = 0;
        for (int person = 0; person < seated; person++) {
            // Nobody minds the own noise, so nobody whose head is among these can be found here.
            if (setWhoMind(person, second, volume, LEAST_OF_HEADS) == heads) {
                set |= 1 << person;
            }
        }
        return set;
    }

    public boolean isSound() {
        for (int person = 0; person < seated; person++) {
            if (!arePlansSound(person)) {
                return false;
            }
        }
        return areSumsSound() && isSilenceSound();
    }

    public long digest() {
        long d = FIRST_DIGEST;
        for (int what = 0; what < HALL_QUESTIONS; what++) {
            d = mixed(d, hall(what));
        }
        for (int second = 0; second < SECONDS; second++) {
            for (int what = 0; what < SECOND_QUESTIONS; what++) {
                d = mixed(d, ofSecond(second, what));
            }
        }
        for (int person = 0; person < seated; person++) {
            d = mixedWithPerson(d, person);
            d = mixedWithCoughs(d, 1 << person);
        }
        for (int row = 0; row < ROWS; row++) {
            d = mixed(d, refund(row));
        }
        if (seated > 0) {
            d = mixedWithCoughs(d, setOfAll());
        }
        return mixed(d, isSound() ? 1 : 0);
    }

    // ---- what the arguments must be

    private void needPerson(int person) {
        if (person < 0 || person >= seated) {
            throw new IndexOutOfBoundsException("no such person");
        }
    }

    private static void needSecond(int second) {
        if (second < 0 || second >= SECONDS) {
            throw new IndexOutOfBoundsException("no such second");
        }
    }

    private static void needWithin(int value, int least, int most) {
        if (value < least || value > most) {
            throw new IllegalArgumentException("a number is too small or too great");
        }
    }

    private void needPeople(int set) {
        if (set < 0 || set > setOfAll()) {
            throw new IllegalArgumentException("no set of people that there are");
        }
    }

    private void needSomePeople(int set) {
        needPeople(set);
        if (set == 0) {
            throw new IllegalArgumentException("the set is empty");
        }
    }

    private void needSweet(int person, int work, int pieces, int pace) {
        needPerson(person);
        needWithin(work, 1, MOST_WORK);
        needWithin(pieces, 1, MOST_PIECES);
        needWithin(pace, 0, MOST_PACE);
    }

    private void needRoomFor(int more) {
        if (noises + more > MOST_NOISES) {
            throw new IllegalStateException("there would be too many noises");
        }
    }

    // ---- the people and their sets

    private static boolean holds(int set, int person) {
        return (set & 1 << person) != 0;
    }

    private int setOfAll() {
        return (1 << seated) - 1;
    }

    private boolean isTaken(int row, int seat) {
        for (int person = 0; person < seated; person++) {
            if (rowOf[person] == row && seatOf[person] == seat) {
                return true;
            }
        }
        return false;
    }

    private void measureFar(int number) {
        for (int other = 0; other < number; other++) {
            int far = 2 * Math.abs(rowOf[number] - rowOf[other]) + Math.abs(seatOf[number] - seatOf[other]);
            farOf[number][other] = far;
            farOf[other][number] = far;
        }
    }

    // ---- the loudnesses

    private int sumOfLoudnesses() {
        int sum = 0;
        for (int second = 0; second < SECONDS; second++) {
            sum += loudnessOf[second];
        }
        return sum;
    }

    private int loudestSecond() {
        int loudest = 0;
        for (int second = 1; second < SECONDS; second++) {
            if (loudnessOf[second] > loudnessOf[loudest]) {
                loudest = second;
            }
        }
        return loudest;
    }

    private int howManyAreLouder(int second) {
        int louder = 0;
        for (int other = 0; other < SECONDS; other++) {
            // Of as loud ones the smaller one counts as the louder.
            if (loudnessOf[other] > loudnessOf[second] || loudnessOf[other] == loudnessOf[second] && other < second) {
                louder++;
            }
        }
        return louder;
    }

    // ---- who minds a noise

    private int mindOf(int maker, int second, int volume, int hearer) {
        if (maker == hearer) {
            return 0;
        }
        int mind = volume - 4 * farOf[maker][hearer] - loudnessOf[second] + earOf[hearer];
        return mind > 0 ? mind : 0;
    }

    private int mindedByOthers(int maker, int second, int volume) {
        int sum = 0;
        for (int hearer = 0; hearer < seated; hearer++) {
            sum += mindOf(maker, second, volume, hearer);
        }
        return sum;
    }

    private int setWhoMind(int maker, int second, int volume, int least) {
        int set = 0;
        for (int hearer = 0; hearer < seated; hearer++) {
            if (mindOf(maker, second, volume, hearer) >= least) {
                set |= 1 << hearer;
            }
        }
        return set;
    }

    // ---- the noises that fell

    private void addNoise(int person, int second, int volume) {
        // Who calls has asked needRoomFor(); this only keeps the number inside the rows.
        if (noises < MOST_NOISES) {
            makerOf[noises] = person;
            secondOf[noises] = second;
            volumeOf[noises] = volume;
            noises++;
        }
    }

    private int noisesAt(int second) {
        int count = 0;
        for (int noise = 0; noise < noises; noise++) {
            if (secondOf[noise] == second) {
                count++;
            }
        }
        return count;
    }

    private int makersAt(int second) {
        int set = 0;
        for (int noise = 0; noise < noises; noise++) {
            if (secondOf[noise] == second) {
                set |= 1 << makerOf[noise];
            }
        }
        return set;
    }

    private int mindedBy(int person, int second) {
        int greatest = 0;
        for (int noise = 0; noise < noises; noise++) {
            if (secondOf[noise] == second) {
                int mind = mindOf(makerOf[noise], second, volumeOf[noise], person);
                greatest = Math.max(greatest, mind);
            }
        }
        return greatest;
    }

    private int headsAt(int second) {
        int set = 0;
        for (int person = 0; person < seated; person++) {
            if (mindedBy(person, second) >= LEAST_OF_HEADS) {
                set |= 1 << person;
            }
        }
        return set;
    }

    private int secondsWithHeads() {
        int count = 0;
        for (int second = 0; second < SECONDS; second++) {
            if (headsAt(second) != 0) {
                count++;
            }
        }
        return count;
    }

    private int mindedByAllAt(int second) {
        int sum = 0;
        for (int person = 0; person < seated; person++) {
            sum += mindedBy(person, second);
        }
        return sum;
    }

    private int scoreOf(int person) {
        int sum = 0;
        for (int second = 0; second < SECONDS; second++) {
            sum += mindedBy(person, second);
        }
        return sum;
    }

    private int sumOfScores() {
        int sum = 0;
        for (int person = 0; person < seated; person++) {
            sum += scoreOf(person);
        }
        return sum;
    }

    private int greatestScore() {
        int greatest = 0;
        for (int person = 0; person < seated; person++) {
            greatest = Math.max(greatest, scoreOf(person));
        }
        return greatest;
    }

    private int paidBackTo(int row) {
        int scores = 0;
        for (int person = 0; person < seated; person++) {
            if (rowOf[person] == row) {
                scores += scoreOf(person);
            }
        }
        return (scores + 9) / 10;
    }

    private int allPaidBack() {
        int sum = 0;
        for (int row = 0; row < ROWS; row++) {
            sum += paidBackTo(row);
        }
        return sum;
    }

    private int ownNoises(int person) {
        int count = 0;
        for (int noise = 0; noise < noises; noise++) {
            if (makerOf[noise] == person) {
                count++;
            }
        }
        return count;
    }

    private int mindsOfOwnNoises(int person) {
        int sum = 0;
        for (int noise = 0; noise < noises; noise++) {
            if (makerOf[noise] == person) {
                sum += mindedByOthers(person, secondOf[noise], volumeOf[noise]);
            }
        }
        return sum;
    }

    // ---- sweets

    private int crackleVolume(int person, int pace) {
        return isSoftOf[person] ? 7 * pace + 12 : 12 * pace + 20;
    }

    private long bestKey(int person, int work, int pieces, int pace) {
        for (int second = 0; second < SECONDS; second++) {
            for (int paceThen = 1; paceThen <= MOST_PACE; paceThen++) {
                int minded = mindedByOthers(person, second, crackleVolume(person, paceThen));
                planner.setCost(second, paceThen, minded);
            }
        }
        return planner.keyOfBest(work, pieces, pace);
    }

    private static int cracklesIn(long key) {
        int count = 0;
        for (int second = 0; second < SECONDS; second++) {
            if (Planner.paceIn(key, second) > 0) {
                count++;
            }
        }
        return count;
    }

    private int mindedAtLoudest(int person, int work, int pace) {
        int sum = 0;
        for (int second = 0; second < SECONDS; second++) {
            // It is needed, if crackles at the louder ones alone leave some of the WORK.
            if (howManyAreLouder(second) * pace < work) {
                sum += mindedByOthers(person, second, crackleVolume(person, pace));
            }
        }
        return sum;
    }

    // ---- throats

    private int bestSecond(int coughers) {
        int last = lastSecondOfAll(coughers);
        int best = 0;
        int least = mindedOfCoughs(coughers, 0);
        for (int second = 1; second <= last; second++) {
            int minded = mindedOfCoughs(coughers, second);
            if (minded < least) {
                best = second;
                least = minded;
            }
        }
        return best;
    }

    private int lastSecondOfAll(int coughers) {
        int last = SECONDS - 1;
        for (int person = 0; person < seated; person++) {
            if (holds(coughers, person)) {
                last = Math.min(last, lastOf[person]);
            }
        }
        return last;
    }

    private int mindedOfCoughs(int coughers, int second) {
        int sum = 0;
        for (int hearer = 0; hearer < seated; hearer++) {
            int greatest = 0;
            for (int cougher = 0; cougher < seated; cougher++) {
                if (holds(coughers, cougher)) {
                    greatest = Math.max(greatest, mindOf(cougher, second, COUGH_VOLUME, hearer));
                }
            }
            sum += greatest;
        }
        return sum;
    }

    private int mindedApart(int coughers) {
        int sum = 0;
        for (int cougher = 0; cougher < seated; cougher++) {
            if (holds(coughers, cougher)) {
                int second = bestSecond(1 << cougher);
                sum += mindedByOthers(cougher, second, COUGH_VOLUME);
            }
        }
        return sum;
    }

    // ---- what must be so

    private boolean arePlansSound(int person) {
        int told = mindedAtLoudest(person, 5, 2);
        int inAnyPieces = Planner.costIn(bestKey(person, 5, MOST_PIECES, 2));
        int inTwoPieces = Planner.costIn(bestKey(person, 5, 2, 2));
        return inAnyPieces == told && inTwoPieces >= told;
    }

    private boolean areSumsSound() {
        int sum = 0;
        for (int second = 0; second < SECONDS; second++) {
            sum += mindedByAllAt(second);
        }
        return sum == sumOfScores();
    }

    private boolean isSilenceSound() {
        for (int second = 0; second < SECONDS; second++) {
            // What holds of the greatest such VOLUME holds of the smaller ones.
            int volume = loudnessOf[second] - MOST_EAR;
            for (int person = 0; person < seated && volume > 0; person++) {
                if (mindedByOthers(person, second, volume) != 0) {
                    return false;
                }
            }
        }
        return true;
    }

    // ---- the checksum

    private static long mixed(long d, long v) {
        return d * 31 + v;
    }

    private long mixedWithPerson(long before, int person) {
        long d = before;
        for (int what = 0; what < PERSON_QUESTIONS; what++) {
            d = mixed(d, ofPerson(person, what));
        }
        d = mixed(d, cost(person, 7, 2, ANY_PACE));
        d = mixed(d, cost(person, 5, 4, 2));
        return mixed(d, loudest(person, 5, 2));
    }

    private long mixedWithCoughs(long before, int coughers) {
        long d = before;
        for (int what = 0; what < COUGH_QUESTIONS; what++) {
            d = mixed(d, coughing(coughers, what));
        }
        return d;
    }

    /**
     * Finds the BEST PLAN from the last SECOND back to the first.
     *
     * <p>A PLAN is held as one number, its key: COST above, and below it two bits for each PACE, those of the first
     * SECOND topmost. So the smaller key is the better PLAN, and the key of a PLAN is the sum of those of its SECONDS.
     */
    private static final class Planner {
        private static final int PACES = MOST_PACE + 1;
        private static final int PACE_BITS = 2;
        private static final int COST_SHIFT = PACE_BITS * SECONDS;
        private static final long NEVER = 1L << 60;
        // No more PIECES find room in the SECONDS, as one without a crackle stands between any two.
        private static final int ROOM_FOR_PIECES = SECONDS / 2;
        private static final int STATES = (MOST_WORK + 1) * (ROOM_FOR_PIECES + 1) * 2;

        private final int[] costs = new int[SECONDS * PACES];
        // The least keys by what is still to do: from the SECOND at hand on, and from the one after it on.
        private long[] now = new long[STATES];
        private long[] later = new long[STATES];

        private static int costIn(long key) {
            return (int) (key >> COST_SHIFT);
        }

        private static int paceIn(long key, int second) {
            return (int) (key >> shiftOf(second)) & MOST_PACE;
        }

        private static int shiftOf(int second) {
            return PACE_BITS * (SECONDS - 1 - second);
        }

        private static int stateOf(int work, int pieces, boolean isInPiece) {
            return (work * (ROOM_FOR_PIECES + 1) + pieces) * 2 + (isInPiece ? 1 : 0);
        }

        private void setCost(int second, int pace, int cost) {
            costs[second * PACES + pace] = cost;
        }

        private long keyOfBest(int work, int pieces, int pace) {
            int most = Math.min(pieces, ROOM_FOR_PIECES);
            startBehindLastSecond(work, most);
            for (int second = SECONDS - 1; second >= 0; second--) {
                for (int left = 0; left <= work; left++) {
                    for (int more = 0; more <= most; more++) {
                        now[stateOf(left, more, false)] = leastKey(second, left, more, false, pace);
                        now[stateOf(left, more, true)] = leastKey(second, left, more, true, pace);
                    }
                }
                long[] free = later;
                later = now;
                now = free;
            }
            return later[stateOf(work, most, false)];
        }

        private void startBehindLastSecond(int work, int most) {
            for (int left = 0; left <= work; left++) {
                for (int more = 0; more <= most; more++) {
                    long key = left == 0 ? 0 : NEVER;
                    later[stateOf(left, more, false)] = key;
                    later[stateOf(left, more, true)] = key;
                }
            }
        }

        private long leastKey(int second, int left, int more, boolean isInPiece, int pace) {
            long least = later[stateOf(left, more, false)];
            int moreBehind = isInPiece ? more : more - 1;
            for (int paceThen = 1; paceThen <= MOST_PACE && moreBehind >= 0; paceThen++) {
                int leftBehind = left > paceThen ? left - paceThen : 0;
                long rest = later[stateOf(leftBehind, moreBehind, true)];
                if ((pace == ANY_PACE || pace == paceThen) && rest != NEVER) {
                    long cost = costs[second * PACES + paceThen];
                    long key = rest + (cost << COST_SHIFT) + ((long) paceThen << shiftOf(second));
                    least = key < least ? key : least;
                }
            }
            return least;
        }
    }
}
