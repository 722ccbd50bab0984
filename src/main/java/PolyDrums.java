/**
 * A drum machine for tracks of different lengths.
 *
 * The Java machine itself must never throw here: what it could throw for (an index, a divisor, a
 * null) is tested right where it is used, mostly in the small functions read, write, quotient,
 * rest, trackOrNull and sectionOrNull.
 */
public final class PolyDrums {
    private static final int MOST_TRACKS = 8;
    private static final int MOST_STEPS = 32;
    private static final int MOST_STEP_TICKS = 48;
    private static final int MOST_FORCE = 127;
    private static final int MOST_STROKES = 4;
    private static final int MOST_TURN = 8;
    private static final int MOST_RING = 200;
    private static final int MOST_GROUP = 3;
    private static final int MOST_PLACES = 31;
    private static final int MOST_SECTIONS = 12;
    private static final int MOST_SECTION_TICKS = 5000;
    private static final int MOST_SET = 255;
    private static final int LAST_TICK = 99999;
    private static final int MOST_SPAN = 3000;
    private static final int LEAST_BEATS = 30;
    private static final int MOST_BEATS = 300;
    private static final int BEAT_TICKS = 24;
    private static final long MOST_PERIOD = 1000000000L;
    private static final int MOST_DIVISIONS = 1000000;
    private static final int NOT_PLAYING = -1;

    // What step() asks for, and at once the place of a step's numbers among its cells.
    private static final int FORCE = 0;
    private static final int STROKES = 1;
    private static final int TURN_A = 2;
    private static final int TURN_B = 3;
    private static final int DELAY = 4;
    private static final int STEP_CELLS = 4;

    // What track() asks for.
    private static final int STEP_COUNT = 0;
    private static final int STEP_TICKS = 1;
    private static final int SWING = 2;
    private static final int RING = 3;
    private static final int GROUP = 4;
    private static final int MUTED = 5;
    private static final int SOLO = 6;
    private static final int ACCENT = 7;

    private final Track[] tracks = new Track[MOST_TRACKS];
    private int trackCount = 0;
    private final Section[] sections = new Section[MOST_SECTIONS];
    private int sectionCount = 0;
    private int beats = 120;

    public PolyDrums() {
    }

    // ---- tracks and steps

    public int addTrack(int n, int d) throws IllegalArgumentException, IllegalStateException {
        checkArgument(isWithin(n, 1, MOST_STEPS) && isWithin(d, 1, MOST_STEP_TICKS));
        int number = trackCount;
        if (number < 0 || number >= tracks.length) {
            throw new IllegalStateException("there are 8 tracks");
        }
        tracks[number] = new Track(n, d);
        trackCount = number + 1;
        return number;
    }

    public int set(int track, int step, int force, int r)
            throws IndexOutOfBoundsException, IllegalArgumentException {
        Track changed = trackWithStep(track, step);
        checkArgument(isWithin(force, 0, MOST_FORCE) && isWithin(r, 1, MOST_STROKES));
        int before = changed.cell(step, FORCE);
        changed.putCell(step, FORCE, force);
        changed.putCell(step, STROKES, r);
        return before;
    }

    public int setTurn(int track, int step, int a, int b)
            throws IndexOutOfBoundsException, IllegalArgumentException {
        Track changed = trackWithStep(track, step);
        checkArgument(isWithin(b, 1, MOST_TURN) && isWithin(a, 0, b - 1));
        int before = changed.cell(step, TURN_B);
        changed.putCell(step, TURN_A, a);
        changed.putCell(step, TURN_B, b);
        return before;
    }

    public int step(int track, int step, int what) throws IndexOutOfBoundsException {
        Track asked = trackWithStep(track, step);
        checkIndex(isWithin(what, FORCE, DELAY));
        return what == DELAY ? asked.delay(step) : asked.cell(step, what);
    }

    public int track(int track, int what) throws IndexOutOfBoundsException {
        Track asked = existingTrack(track);
        checkIndex(isWithin(what, STEP_COUNT, ACCENT));
        return asked.setting(what);
    }

    public int tune(int track, int swing, int ring, int group)
            throws IndexOutOfBoundsException, IllegalArgumentException {
        Track changed = existingTrack(track);
        checkArgument(isWithin(swing, 0, changed.stepTicks - 1)
                && isWithin(ring, 1, MOST_RING) && isWithin(group, 0, MOST_GROUP));
        int before = changed.swing;
        changed.swing = swing;
        changed.ring = ring;
        changed.group = group;
        return before;
    }

    public boolean turn(int track, int what, boolean isOn) throws IndexOutOfBoundsException {
        Track changed = existingTrack(track);
        checkIndex(isWithin(what, 0, ACCENT - MUTED));
        boolean before = changed.setting(MUTED + what) == 1;
        changed.switchTo(MUTED + what, isOn);
        return before;
    }

    public int spread(int track, int hits, int force)
            throws IndexOutOfBoundsException, IllegalArgumentException {
        Track changed = existingTrack(track);
        checkArgument(isWithin(hits, 0, changed.steps) && isWithin(force, 1, MOST_FORCE));
        return changed.spreadHits(hits, force);
    }

    public int rotate(int track, int places)
            throws IndexOutOfBoundsException, IllegalArgumentException {
        Track changed = existingTrack(track);
        checkArgument(isWithin(places, 0, MOST_PLACES));
        changed.moveSteps(places);
        return changed.stepsWithForce();
    }

    public int stretch(int track, int n)
            throws IndexOutOfBoundsException, IllegalArgumentException {
        Track changed = existingTrack(track);
        checkArgument(isWithin(n, 1, MOST_STEPS));
        int before = changed.steps;
        changed.resize(n);
        return before;
    }

    public int tap(int track, int tick, int force)
            throws IndexOutOfBoundsException, IllegalArgumentException {
        Track changed = existingTrack(track);
        checkArgument(isTick(tick) && isWithin(force, 1, MOST_FORCE));
        int step = changed.nearestStep(tick);
        changed.putCell(step, FORCE, force);
        return step;
    }

    public int tracks() {
        return trackCount;
    }

    // ---- sections

    public int addSection(int length, int set, boolean isNew)
            throws IllegalArgumentException, IllegalStateException {
        checkArgument(isWithin(length, 1, MOST_SECTION_TICKS) && isWithin(set, 0, MOST_SET));
        int number = sectionCount;
        if (number < 0 || number >= sections.length) {
            throw new IllegalStateException("there are 12 sections");
        }
        int begin = songTicks();
        sections[number] = new Section(begin, length, set, isNew);
        sectionCount = number + 1;
        return begin;
    }

    public int dropSection() throws IllegalStateException {
        int last = sectionCount - 1;
        if (last < 0 || last >= sections.length) {
            throw new IllegalStateException("there is no section");
        }
        sections[last] = null;
        sectionCount = last;
        return last;
    }

    public int sectionAt(int tick) throws IllegalArgumentException {
        checkArgument(isTick(tick));
        return sectionNumber(tick);
    }

    public int length() {
        return songTicks();
    }

    // ---- what sounds

    public int loudness(int track, int tick)
            throws IndexOutOfBoundsException, IllegalArgumentException {
        existingTrack(track);
        checkArgument(isTick(tick));
        if (!makesHit(track, tick)) {
            return 0;
        }
        return Math.min(struckForce(track, tick) + accentForce(tick) / 4, MOST_FORCE);
    }

    public int hits(int tick) throws IllegalArgumentException {
        checkArgument(isTick(tick));
        return hitSet(tick);
    }

    public int sounding(int tick) throws IllegalArgumentException {
        checkArgument(isTick(tick));
        int sounding = 0;
        // A track is open until its own hit, or one of its group, is found on the way back: what
        // it did before that no longer sounds.
        int open = (1 << trackCount) - 1;
        for (int age = 0; age < MOST_RING && age <= tick && open != 0; age++) {
            int hits = hitSet(tick - age);
            // From the greatest number down: of a group's hits at one tick only that one sounds.
            for (int k = trackCount - 1; k >= 0; k--) {
                Track t = trackOrNull(k);
                if (t == null || !isInSet(hits & open, k)) {
                    continue;
                }
                if (age < t.ring) {
                    sounding |= 1 << k;
                }
                open &= ~(1 << k | groupSet(t.group));
            }
        }
        return sounding;
    }

    public int next(int track, int tick)
            throws IndexOutOfBoundsException, IllegalArgumentException {
        existingTrack(track);
        checkArgument(isTick(tick));
        int last = Math.min(tick + MOST_SPAN, LAST_TICK);
        for (int t = tick; t <= last; t++) {
            if (makesHit(track, t)) {
                return t;
            }
        }
        return -1;
    }

    public int count(int track, int from, int to)
            throws IndexOutOfBoundsException, IllegalArgumentException {
        existingTrack(track);
        checkArgument(isSpan(from, to));
        return commonHits(track, track, from, to);
    }

    public int together(int a, int b, int from, int to)
            throws IndexOutOfBoundsException, IllegalArgumentException {
        existingTrack(a);
        existingTrack(b);
        checkArgument(isSpan(from, to));
        return commonHits(a, b, from, to);
    }

    public int rounds(int track) throws IndexOutOfBoundsException {
        return existingTrack(track).roundsOfTurns();
    }

    public long period() {
        long period = 1;
        for (int k = 0; k < trackCount; k++) {
            Track t = trackOrNull(k);
            if (t != null) {
                period = leastCommonMultiple(period, (long) t.roundTicks() * t.roundsOfTurns());
            }
            // A further track never makes it smaller, and it must not grow out of a long.
            if (period > MOST_PERIOD) {
                return -1;
            }
        }
        return period;
    }

    public double density(int track) throws IndexOutOfBoundsException {
        return existingTrack(track).strokesPerRound();
    }

    public int setSpeed(int beats) throws IllegalArgumentException {
        checkArgument(isWithin(beats, LEAST_BEATS, MOST_BEATS));
        int before = this.beats;
        this.beats = beats;
        return before;
    }

    public double seconds(int tick) throws IllegalArgumentException {
        checkArgument(isTick(tick));
        return (double) tick * 60.0 / (double) beats / (double) BEAT_TICKS;
    }

    public long digest() {
        long sum = mix(mix(313, beats), trackCount);
        for (int k = 0; k < trackCount; k++) {
            Track t = trackOrNull(k);
            if (t != null) {
                sum = t.mixInto(sum);
            }
        }
        sum = mix(sum, sectionCount);
        for (int k = 0; k < sectionCount; k++) {
            Section s = sectionOrNull(k);
            if (s != null) {
                sum = mix(mix(mix(sum, s.length), s.set), s.isNew ? 1 : 0);
            }
        }
        return sum;
    }

    // ---- what arguments must be

    private static boolean isWithin(int x, int least, int most) {
        return x >= least && x <= most;
    }

    private static boolean isTick(int tick) {
        return isWithin(tick, 0, LAST_TICK);
    }

    private static boolean isSpan(int from, int to) {
        return isTick(from) && isTick(to) && to >= from && to - from <= MOST_SPAN;
    }

    private static void checkArgument(boolean isRight) {
        if (!isRight) {
            throw new IllegalArgumentException("an argument is beyond its limits");
        }
    }

    private static void checkIndex(boolean isThere) {
        if (!isThere) {
            throw new IndexOutOfBoundsException("there is no such thing");
        }
    }

    private Track trackOrNull(int number) {
        return number >= 0 && number < tracks.length ? tracks[number] : null;
    }

    private Section sectionOrNull(int number) {
        return number >= 0 && number < sections.length ? sections[number] : null;
    }

    private Track existingTrack(int number) {
        Track found = trackOrNull(number);
        if (found == null) {
            throw new IndexOutOfBoundsException("there is no such track");
        }
        return found;
    }

    private Track trackWithStep(int number, int step) {
        Track found = existingTrack(number);
        checkIndex(isWithin(step, 0, found.steps - 1));
        return found;
    }

    // ---- the song

    private int songTicks() {
        Section last = sectionOrNull(sectionCount - 1);
        return last == null ? 0 : last.begin + last.length;
    }

    private int sectionNumber(int tick) {
        for (int k = 0; k < sectionCount; k++) {
            Section s = sectionOrNull(k);
            if (s != null && tick < s.begin + s.length) {
                return k;
            }
        }
        return -1;
    }

    private int localTime(int number, int tick) {
        if (sectionCount == 0) {
            return tick;
        }
        Section here = sectionOrNull(sectionNumber(tick));
        if (here == null || !isInSet(here.set, number)) {
            return NOT_PLAYING;
        }
        return here.isNew ? tick - here.begin : tick;
    }

    // ---- strikes, hits and sound

    private boolean isAnySolo() {
        for (int k = 0; k < trackCount; k++) {
            Track t = trackOrNull(k);
            if (t != null && t.isSolo) {
                return true;
            }
        }
        return false;
    }

    private boolean isSilenced(Track t) {
        return t.isMuted || !t.isSolo && isAnySolo();
    }

    /** The force with which a track strikes at a tick, 0 if it does not. */
    private int struckForce(int number, int tick) {
        Track t = trackOrNull(number);
        if (t == null || isSilenced(t)) {
            return 0;
        }
        int local = localTime(number, tick);
        return local == NOT_PLAYING ? 0 : t.forceAt(local);
    }

    private boolean makesHit(int number, int tick) {
        Track t = trackOrNull(number);
        return t != null && !t.isAccent && struckForce(number, tick) > 0;
    }

    private int accentForce(int tick) {
        int sum = 0;
        for (int k = 0; k < trackCount; k++) {
            Track t = trackOrNull(k);
            if (t != null && t.isAccent) {
                sum += struckForce(k, tick);
            }
        }
        return sum;
    }

    private int hitSet(int tick) {
        int set = 0;
        for (int k = 0; k < trackCount; k++) {
            if (makesHit(k, tick)) {
                set |= 1 << k;
            }
        }
        return set;
    }

    private int commonHits(int a, int b, int from, int to) {
        int sum = 0;
        for (int t = from; t < to; t++) {
            if (makesHit(a, t) && makesHit(b, t)) {
                sum++;
            }
        }
        return sum;
    }

    private int groupSet(int group) {
        int set = 0;
        for (int k = 0; k < trackCount; k++) {
            Track t = trackOrNull(k);
            if (t != null && group != 0 && t.group == group) {
                set |= 1 << k;
            }
        }
        return set;
    }

    // ---- numbers

    private static boolean isInSet(int set, int number) {
        return (set >> number & 1) == 1;
    }

    private static int quotient(int x, int divisor) {
        return divisor > 0 ? x / divisor : 0;
    }

    private static int rest(int x, int divisor) {
        return divisor > 0 ? x % divisor : 0;
    }

    private static int read(int[] row, int index) {
        return index >= 0 && index < row.length ? row[index] : 0;
    }

    private static void write(int[] row, int index, int x) {
        if (index >= 0 && index < row.length) {
            row[index] = x;
        }
    }

    private static long greatestCommonDivisor(long a, long b) {
        long x = a;
        long y = b;
        for (int i = 0; i < MOST_DIVISIONS && y > 0; i++) {
            long remainder = x % y;
            x = y;
            y = remainder;
        }
        return x;
    }

    private static long leastCommonMultiple(long a, long b) {
        long divisor = greatestCommonDivisor(a, b);
        return divisor > 0 ? a / divisor * b : 0;
    }

    private static long mix(long sum, long x) {
        return sum * 31 + x;
    }

    private static final class Track {
        private final int stepTicks;
        private int steps;
        private int swing = 0;
        private int ring = 10;
        private int group = 0;
        private boolean isMuted = false;
        private boolean isSolo = false;
        private boolean isAccent = false;
        private final int[] cells = new int[MOST_STEPS * STEP_CELLS];
        private final int[] spare = new int[MOST_STEPS * STEP_CELLS];

        private Track(int steps, int stepTicks) {
            this.steps = steps;
            this.stepTicks = stepTicks;
            for (int s = 0; s < MOST_STEPS; s++) {
                clearStep(s, 0);
            }
        }

        private int cell(int step, int what) {
            return read(cells, step * STEP_CELLS + what);
        }

        private void putCell(int step, int what, int x) {
            write(cells, step * STEP_CELLS + what, x);
        }

        private void clearStep(int step, int force) {
            putCell(step, FORCE, force);
            putCell(step, STROKES, 1);
            putCell(step, TURN_A, 0);
            putCell(step, TURN_B, 1);
        }

        private int delay(int step) {
            return step % 2 == 1 ? swing : 0;
        }

        private int roundTicks() {
            return steps * stepTicks;
        }

        private int setting(int what) {
            switch (what) {
                case STEP_COUNT: return steps;
                case STEP_TICKS: return stepTicks;
                case SWING: return swing;
                case RING: return ring;
                case GROUP: return group;
                case MUTED: return isMuted ? 1 : 0;
                case SOLO: return isSolo ? 1 : 0;
                default: return isAccent ? 1 : 0;
            }
        }

        private void switchTo(int what, boolean isOn) {
            switch (what) {
                case MUTED: isMuted = isOn; break;
                case SOLO: isSolo = isOn; break;
                default: isAccent = isOn; break;
            }
        }

        private int spreadHits(int hits, int force) {
            int last = -1;
            for (int s = 0; s < steps; s++) {
                boolean isHit = rest(s * hits, steps) < hits;
                clearStep(s, isHit ? force : 0);
                if (isHit) {
                    last = s;
                }
            }
            return last;
        }

        private void moveSteps(int places) {
            System.arraycopy(cells, 0, spare, 0, MOST_STEPS * STEP_CELLS);
            for (int s = 0; s < steps; s++) {
                copyStep(spare, s, rest(s + places, steps));
            }
        }

        private void resize(int n) {
            // Filled from the front, so each copy can be made from a step that stands already.
            for (int s = steps; s < n; s++) {
                copyStep(cells, s - steps, s);
            }
            steps = n;
        }

        private void copyStep(int[] source, int from, int to) {
            for (int what = 0; what < STEP_CELLS; what++) {
                putCell(to, what, read(source, from * STEP_CELLS + what));
            }
        }

        private int stepsWithForce() {
            int sum = 0;
            for (int s = 0; s < steps; s++) {
                if (cell(s, FORCE) > 0) {
                    sum++;
                }
            }
            return sum;
        }

        private int nearestStep(int tick) {
            int place = rest(tick, roundTicks());
            // Step 0 comes round again behind the last step, and may be nearer from there.
            int nearest = 0;
            int least = Math.min(place, roundTicks() - place);
            for (int s = 1; s < steps; s++) {
                int distance = Math.abs(place - (s * stepTicks + delay(s)));
                if (distance < least) {
                    nearest = s;
                    least = distance;
                }
            }
            return nearest;
        }

        /** The force with which the steps strike at a local time, 0 if they do not. */
        private int forceAt(int local) {
            int round = quotient(local, roundTicks());
            int place = rest(local, roundTicks());
            int step = quotient(place, stepTicks);
            if (rest(round, cell(step, TURN_B)) != cell(step, TURN_A)) {
                return 0;
            }
            int delay = delay(step);
            int behindDelay = place - step * stepTicks - delay;
            boolean isStruck = isStroke(behindDelay, stepTicks - delay, cell(step, STROKES));
            return isStruck ? cell(step, FORCE) : 0;
        }

        /** Whether one of the strokes that share a span of ticks begins at a tick of it. */
        private static boolean isStroke(int tick, int span, int strokes) {
            for (int i = 0; i < strokes; i++) {
                if (tick == quotient(i * span, strokes)) {
                    return true;
                }
            }
            return false;
        }

        private int roundsOfTurns() {
            long rounds = 1;
            for (int s = 0; s < steps; s++) {
                if (cell(s, FORCE) > 0) {
                    rounds = leastCommonMultiple(rounds, cell(s, TURN_B));
                }
            }
            return (int) rounds;
        }

        private double strokesPerRound() {
            double sum = 0.0;
            for (int s = 0; s < steps; s++) {
                int turnOf = cell(s, TURN_B);
                if (cell(s, FORCE) > 0 && turnOf > 0) {
                    sum += (double) cell(s, STROKES) / (double) turnOf;
                }
            }
            return sum;
        }

        private long mixInto(long start) {
            long sum = start;
            for (int what = STEP_COUNT; what <= ACCENT; what++) {
                sum = mix(sum, setting(what));
            }
            for (int s = 0; s < steps; s++) {
                for (int what = 0; what < STEP_CELLS; what++) {
                    sum = mix(sum, cell(s, what));
                }
            }
            return sum;
        }
    }

    private static final class Section {
        private final int begin;
        private final int length;
        private final int set;
        private final boolean isNew;

        private Section(int begin, int length, int set, boolean isNew) {
            this.begin = begin;
            this.length = length;
            this.set = set;
            this.isNew = isNew;
        }
    }
}
