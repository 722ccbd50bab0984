/** Tests each promise of the document by hand-reckoned answers: p1 to p29, one method a promise. */
public final class PromiseTest {
    private static final Class<?> INDEX = IndexOutOfBoundsException.class;
    private static final Class<?> ARGUMENT = IllegalArgumentException.class;
    private static final Class<?> STATE = IllegalStateException.class;
    private static final int[] WILD = {-1, Integer.MIN_VALUE, Integer.MAX_VALUE};
    private static final int LAST_TICK = 99999;

    private static int wrong = 0;
    private static int checks = 0;

    private interface Call {
        Object answer();
    }

    public static void main(String[] args) {
        p1NewObject();
        p2AddTrack();
        p3Set();
        p4SetTurn();
        p5Step();
        p6Track();
        p7Tune();
        p8Turn();
        p9Spread();
        p10Rotate();
        p11Stretch();
        p12Tap();
        p13Tracks();
        p14AddSection();
        p15DropSection();
        p16SectionAt();
        p17Length();
        p18Loudness();
        p18LoudnessInSections();
        p19Hits();
        p19Strokes();
        p20Sounding();
        p20SoundingInGroups();
        p21Next();
        p22Count();
        p23Together();
        p24Rounds();
        p25Period();
        p26Density();
        p27SetSpeed();
        p28Seconds();
        p29Digest();
        System.out.println("PromiseTest: " + checks + " checks, " + wrong + " wrong");
        if (wrong != 0) {
            System.exit(1);
        }
    }

    private static void due(String what, Object want, Object got) {
        checks++;
        if (!want.equals(got)) {
            wrong++;
            System.out.println(what + ": answered " + got + ", due is " + want);
        }
    }

    /** The call must throw just this exception, no subclass of it, and change nothing. */
    private static void dueThrow(String what, PolyDrums x, Class<?> want, Call call) {
        long before = x.digest();
        Object got;
        try {
            got = call.answer();
        } catch (RuntimeException e) {
            got = e.getClass();
        }
        due(what, want, got);
        due(what + ", the state behind it", before, x.digest());
    }

    private static PolyDrums withTracks(int... sizes) {
        PolyDrums x = new PolyDrums();
        for (int i = 0; i + 1 < sizes.length; i += 2) {
            x.addTrack(sizes[i], sizes[i + 1]);
        }
        return x;
    }

    private static String forces(PolyDrums x, int track) {
        StringBuilder text = new StringBuilder();
        for (int s = 0; s < x.track(track, 0); s++) {
            text.append(s == 0 ? "" : " ").append(x.step(track, s, 0));
        }
        return text.toString();
    }

    private static String wholeStep(PolyDrums x, int track, int step) {
        return x.step(track, step, 0) + " " + x.step(track, step, 1) + " "
                + x.step(track, step, 2) + " " + x.step(track, step, 3);
    }

    private static String hitTicks(PolyDrums x, int track, int from, int to) {
        StringBuilder text = new StringBuilder();
        for (int t = from; t < to; t++) {
            if ((x.hits(t) >> track & 1) == 1) {
                text.append(text.length() == 0 ? "" : " ").append(t);
            }
        }
        return text.toString();
    }

    private static void p1NewObject() {
        PolyDrums x = new PolyDrums();
        due("p1 tracks", 0, x.tracks());
        due("p1 length", 0, x.length());
        due("p1 sectionAt", -1, x.sectionAt(0));
        due("p1 period", 1L, x.period());
        due("p1 hits", 0, x.hits(0));
        due("p1 sounding", 0, x.sounding(0));
        due("p1 digest", ((313L * 31 + 120) * 31 + 0) * 31 + 0, x.digest());
        due("p1 speed", 120, x.setSpeed(120));
    }

    private static void p2AddTrack() {
        PolyDrums x = new PolyDrums();
        int[][] bad = {{0, 1}, {33, 1}, {1, 0}, {1, 49}, {-1, 1}, {1, -1},
            {Integer.MIN_VALUE, 5}, {5, Integer.MAX_VALUE}};
        for (int[] b : bad) {
            dueThrow("p2 " + b[0] + ", " + b[1], x, ARGUMENT, () -> x.addTrack(b[0], b[1]));
        }
        for (int k = 0; k < 8; k++) {
            due("p2 number", k, x.addTrack(k % 2 == 0 ? 1 : 32, k % 2 == 0 ? 48 : 1));
        }
        due("p2 steps", 32, x.track(7, 0));
        due("p2 ticks", 1, x.track(7, 1));
        dueThrow("p2 a ninth", x, STATE, () -> x.addTrack(1, 1));
        dueThrow("p2 a ninth that is wrong", x, ARGUMENT, () -> x.addTrack(33, 1));
        due("p2 tracks", 8, x.tracks());
    }

    private static void p3Set() {
        PolyDrums x = withTracks(4, 10, 2, 5);
        due("p3 first", 0, x.set(0, 3, 127, 4));
        due("p3 cells", "127 4 0 1", wholeStep(x, 0, 3));
        x.setTurn(0, 3, 2, 5);
        due("p3 again", 127, x.set(0, 3, 0, 1));
        due("p3 leaves the turn", "0 1 2 5", wholeStep(x, 0, 3));
        due("p3 other step", "0 1 0 1", wholeStep(x, 0, 2));
        due("p3 other track", "0 0", forces(x, 1));
        dueThrow("p3 track", x, INDEX, () -> x.set(2, 0, 1, 1));
        dueThrow("p3 step", x, INDEX, () -> x.set(0, 4, 1, 1));
        dueThrow("p3 step of the shorter one", x, INDEX, () -> x.set(1, 2, 1, 1));
        for (int w : WILD) {
            dueThrow("p3 track " + w, x, INDEX, () -> x.set(w, 0, 1, 1));
            dueThrow("p3 step " + w, x, INDEX, () -> x.set(0, w, 1, 1));
            dueThrow("p3 force " + w, x, ARGUMENT, () -> x.set(0, 0, w, 1));
            dueThrow("p3 r " + w, x, ARGUMENT, () -> x.set(0, 0, 1, w));
            dueThrow("p3 all " + w, x, INDEX, () -> x.set(0, w, w, w));
        }
        dueThrow("p3 force 128", x, ARGUMENT, () -> x.set(0, 0, 128, 1));
        dueThrow("p3 r 0", x, ARGUMENT, () -> x.set(0, 0, 1, 0));
        dueThrow("p3 r 5", x, ARGUMENT, () -> x.set(0, 0, 1, 5));
    }

    private static void p4SetTurn() {
        PolyDrums x = withTracks(3, 10);
        x.set(0, 2, 9, 3);
        due("p4 first", 1, x.setTurn(0, 2, 7, 8));
        due("p4 cells", "9 3 7 8", wholeStep(x, 0, 2));
        due("p4 again", 8, x.setTurn(0, 2, 0, 1));
        due("p4 cells again", "9 3 0 1", wholeStep(x, 0, 2));
        due("p4 other step", "0 1 0 1", wholeStep(x, 0, 1));
        dueThrow("p4 track", x, INDEX, () -> x.setTurn(1, 0, 0, 1));
        dueThrow("p4 step", x, INDEX, () -> x.setTurn(0, 3, 0, 1));
        dueThrow("p4 b 0", x, ARGUMENT, () -> x.setTurn(0, 0, 0, 0));
        dueThrow("p4 b 9", x, ARGUMENT, () -> x.setTurn(0, 0, 0, 9));
        dueThrow("p4 a is b", x, ARGUMENT, () -> x.setTurn(0, 0, 3, 3));
        for (int w : WILD) {
            dueThrow("p4 track " + w, x, INDEX, () -> x.setTurn(w, 0, 0, 1));
            dueThrow("p4 step " + w, x, INDEX, () -> x.setTurn(0, w, 0, 0));
            dueThrow("p4 a " + w, x, ARGUMENT, () -> x.setTurn(0, 0, w, 8));
            dueThrow("p4 b " + w, x, ARGUMENT, () -> x.setTurn(0, 0, 0, w));
        }
    }

    private static void p5Step() {
        PolyDrums x = withTracks(4, 10);
        x.set(0, 1, 77, 2);
        x.setTurn(0, 1, 3, 6);
        x.tune(0, 9, 10, 0);
        int[] want = {77, 2, 3, 6, 9};
        for (int what = 0; what < 5; what++) {
            due("p5 what " + what, want[what], x.step(0, 1, what));
        }
        due("p5 delay of an even step", 0, x.step(0, 0, 4));
        due("p5 delay of step 2", 0, x.step(0, 2, 4));
        due("p5 delay of step 3", 9, x.step(0, 3, 4));
        dueThrow("p5 track", x, INDEX, () -> x.step(1, 0, 0));
        dueThrow("p5 step", x, INDEX, () -> x.step(0, 4, 0));
        dueThrow("p5 what", x, INDEX, () -> x.step(0, 0, 5));
        for (int w : WILD) {
            dueThrow("p5 track " + w, x, INDEX, () -> x.step(w, 0, 0));
            dueThrow("p5 step " + w, x, INDEX, () -> x.step(0, w, 0));
            dueThrow("p5 what " + w, x, INDEX, () -> x.step(0, 0, w));
        }
    }

    private static void p6Track() {
        PolyDrums x = withTracks(5, 12);
        int[] atFirst = {5, 12, 0, 10, 0, 0, 0, 0};
        for (int what = 0; what < 8; what++) {
            due("p6 at first " + what, atFirst[what], x.track(0, what));
        }
        x.tune(0, 11, 200, 3);
        x.stretch(0, 6);
        int[] tuned = {6, 12, 11, 200, 3, 0, 0, 0};
        for (int on = 0; on < 3; on++) {
            x.turn(0, on, true);
            for (int what = 0; what < 8; what++) {
                due("p6 tuned " + what, what == 5 + on ? 1 : tuned[what], x.track(0, what));
            }
            x.turn(0, on, false);
        }
        dueThrow("p6 track", x, INDEX, () -> x.track(1, 0));
        dueThrow("p6 what", x, INDEX, () -> x.track(0, 8));
        for (int w : WILD) {
            dueThrow("p6 track " + w, x, INDEX, () -> x.track(w, 0));
            dueThrow("p6 what " + w, x, INDEX, () -> x.track(0, w));
        }
    }

    private static void p7Tune() {
        PolyDrums x = withTracks(5, 12, 3, 1);
        due("p7 first", 0, x.tune(0, 11, 1, 3));
        due("p7 again", 11, x.tune(0, 0, 200, 0));
        due("p7 ring", 200, x.track(0, 3));
        due("p7 group", 0, x.track(0, 4));
        due("p7 d 1", 0, x.tune(1, 0, 10, 0));
        due("p7 other track", 10, x.track(1, 3));
        dueThrow("p7 track", x, INDEX, () -> x.tune(2, 0, 1, 0));
        dueThrow("p7 swing of d 1", x, ARGUMENT, () -> x.tune(1, 1, 1, 0));
        dueThrow("p7 swing", x, ARGUMENT, () -> x.tune(0, 12, 1, 0));
        dueThrow("p7 ring 0", x, ARGUMENT, () -> x.tune(0, 0, 0, 0));
        dueThrow("p7 ring 201", x, ARGUMENT, () -> x.tune(0, 0, 201, 0));
        dueThrow("p7 group 4", x, ARGUMENT, () -> x.tune(0, 0, 1, 4));
        for (int w : WILD) {
            dueThrow("p7 track " + w, x, INDEX, () -> x.tune(w, w, 1, 0));
            dueThrow("p7 swing " + w, x, ARGUMENT, () -> x.tune(0, w, 1, 0));
            dueThrow("p7 ring " + w, x, ARGUMENT, () -> x.tune(0, 0, w, 0));
            dueThrow("p7 group " + w, x, ARGUMENT, () -> x.tune(0, 0, 1, w));
        }
    }

    private static void p8Turn() {
        PolyDrums x = withTracks(1, 1, 1, 1);
        for (int what = 0; what < 3; what++) {
            due("p8 on " + what, false, x.turn(1, what, true));
            due("p8 on again " + what, true, x.turn(1, what, true));
            due("p8 told " + what, 1, x.track(1, 5 + what));
            due("p8 other track " + what, 0, x.track(0, 5 + what));
            due("p8 off " + what, true, x.turn(1, what, false));
            due("p8 off again " + what, false, x.turn(1, what, false));
            due("p8 told off " + what, 0, x.track(1, 5 + what));
        }
        dueThrow("p8 track", x, INDEX, () -> x.turn(2, 0, true));
        dueThrow("p8 what", x, INDEX, () -> x.turn(0, 3, true));
        for (int w : WILD) {
            dueThrow("p8 track " + w, x, INDEX, () -> x.turn(w, 0, true));
            dueThrow("p8 what " + w, x, INDEX, () -> x.turn(0, w, true));
        }
    }

    private static void p9Spread() {
        PolyDrums x = withTracks(8, 4, 5, 4);
        for (int s = 0; s < 8; s++) {
            x.set(0, s, 99, 3);
            x.setTurn(0, s, 1, 2);
        }
        due("p9 3 over 8", 6, x.spread(0, 3, 50));
        due("p9 forces", "50 0 0 50 0 0 50 0", forces(x, 0));
        for (int s = 0; s < 8; s++) {
            due("p9 as at first", (s % 3 == 0 ? 50 : 0) + " 1 0 1", wholeStep(x, 0, s));
        }
        due("p9 5 over 8", 7, x.spread(0, 5, 1));
        due("p9 forces of 5", "1 0 1 0 1 1 0 1", forces(x, 0));
        due("p9 1 of 8", 0, x.spread(0, 1, 127));
        due("p9 all", 4, x.spread(1, 5, 127));
        due("p9 all forces", "127 127 127 127 127", forces(x, 1));
        x.set(1, 1, 5, 4);
        due("p9 none", -1, x.spread(1, 0, 1));
        due("p9 none forces", "0 0 0 0 0", forces(x, 1));
        due("p9 none strokes", 1, x.step(1, 1, 1));
        dueThrow("p9 track", x, INDEX, () -> x.spread(2, 1, 1));
        dueThrow("p9 hits", x, ARGUMENT, () -> x.spread(1, 6, 1));
        dueThrow("p9 force 0", x, ARGUMENT, () -> x.spread(1, 0, 0));
        dueThrow("p9 force 128", x, ARGUMENT, () -> x.spread(1, 1, 128));
        for (int w : WILD) {
            dueThrow("p9 track " + w, x, INDEX, () -> x.spread(w, w, 1));
            dueThrow("p9 hits " + w, x, ARGUMENT, () -> x.spread(0, w, 1));
            dueThrow("p9 force " + w, x, ARGUMENT, () -> x.spread(0, 1, w));
        }
    }

    private static void p10Rotate() {
        PolyDrums x = withTracks(4, 10);
        x.set(0, 0, 10, 2);
        x.setTurn(0, 0, 1, 3);
        x.set(0, 2, 30, 1);
        x.set(0, 3, 40, 4);
        due("p10 by 1", 3, x.rotate(0, 1));
        due("p10 forces", "40 10 0 30", forces(x, 0));
        due("p10 with all", "10 2 1 3", wholeStep(x, 0, 1));
        due("p10 from the last", "40 4 0 1", wholeStep(x, 0, 0));
        due("p10 by 0", 3, x.rotate(0, 0));
        due("p10 still", "40 10 0 30", forces(x, 0));
        due("p10 by 31", 3, x.rotate(0, 31));
        due("p10 forces by 31", "10 0 30 40", forces(x, 0));
        due("p10 by n", 3, x.rotate(0, 4));
        due("p10 forces by n", "10 0 30 40", forces(x, 0));
        x.spread(0, 0, 1);
        due("p10 without forces", 0, x.rotate(0, 2));
        PolyDrums one = withTracks(1, 1);
        one.set(0, 0, 5, 1);
        due("p10 one step", 1, one.rotate(0, 31));
        due("p10 one step still", 5, one.step(0, 0, 0));
        one.set(0, 0, 1, 1);
        due("p10 the least force", 1, one.rotate(0, 1));
        dueThrow("p10 track", x, INDEX, () -> x.rotate(1, 0));
        dueThrow("p10 places", x, ARGUMENT, () -> x.rotate(0, 32));
        for (int w : WILD) {
            dueThrow("p10 track " + w, x, INDEX, () -> x.rotate(w, w));
            dueThrow("p10 places " + w, x, ARGUMENT, () -> x.rotate(0, w));
        }
    }

    private static void p11Stretch() {
        PolyDrums x = withTracks(3, 10);
        x.set(0, 0, 1, 4);
        x.setTurn(0, 0, 5, 7);
        x.set(0, 1, 2, 1);
        x.set(0, 2, 3, 1);
        due("p11 longer", 3, x.stretch(0, 8));
        due("p11 forces", "1 2 3 1 2 3 1 2", forces(x, 0));
        due("p11 copies all", "1 4 5 7", wholeStep(x, 0, 6));
        x.set(0, 7, 9, 1);
        due("p11 a copy is its own", 2, x.step(0, 1, 0));
        due("p11 shorter", 8, x.stretch(0, 2));
        due("p11 forces of 2", "1 2", forces(x, 0));
        dueThrow("p11 a step that is gone", x, INDEX, () -> x.step(0, 2, 0));
        due("p11 what was cut off is gone", 2, x.stretch(0, 5));
        due("p11 forces of 5", "1 2 1 2 1", forces(x, 0));
        due("p11 the same", 5, x.stretch(0, 5));
        due("p11 to 1", 5, x.stretch(0, 1));
        due("p11 to 32", 1, x.stretch(0, 32));
        due("p11 the last of 32", "1 4 5 7", wholeStep(x, 0, 31));
        dueThrow("p11 track", x, INDEX, () -> x.stretch(1, 1));
        dueThrow("p11 n 0", x, ARGUMENT, () -> x.stretch(0, 0));
        dueThrow("p11 n 33", x, ARGUMENT, () -> x.stretch(0, 33));
        for (int w : WILD) {
            dueThrow("p11 track " + w, x, INDEX, () -> x.stretch(w, w));
            dueThrow("p11 n " + w, x, ARGUMENT, () -> x.stretch(0, w));
        }
    }

    private static void p12Tap() {
        PolyDrums x = withTracks(4, 10, 1, 48);
        due("p12 on a step", 2, x.tap(0, 20, 7));
        due("p12 forces", "0 0 7 0", forces(x, 0));
        due("p12 nearer below", 1, x.tap(0, 14, 1));
        due("p12 in the middle: the smaller number", 1, x.tap(0, 15, 1));
        due("p12 nearer above", 2, x.tap(0, 16, 1));
        due("p12 in the middle of 3 and 0", 0, x.tap(0, 35, 1));
        due("p12 ahead of the middle", 3, x.tap(0, 34, 1));
        due("p12 the next round", 0, x.tap(0, 36, 1));
        due("p12 a later round", 1, x.tap(0, 4011, 2));
        due("p12 the last tick", 0, x.tap(0, LAST_TICK, 127));
        x.tune(0, 6, 10, 0);
        due("p12 swing, 0 is as near", 0, x.tap(0, 8, 1));
        due("p12 swing", 1, x.tap(0, 9, 1));
        due("p12 swing, 1 is as near as 2", 1, x.tap(0, 18, 1));
        due("p12 swing of the last step", 3, x.tap(0, 37, 1));
        due("p12 swing, 0 of the next round is as near", 0, x.tap(0, 38, 1));
        x.set(0, 3, 5, 4);
        x.setTurn(0, 3, 2, 3);
        x.tap(0, 36, 90);
        due("p12 only the force", "90 4 2 3", wholeStep(x, 0, 3));
        due("p12 one step", 0, x.tap(1, 30, 4));
        x.addSection(35, 255, true);
        x.addSection(35, 255, true);
        due("p12 by the tick, not by local time", 0, x.tap(0, 39, 1));
        dueThrow("p12 track", x, INDEX, () -> x.tap(2, 0, 1));
        dueThrow("p12 tick", x, ARGUMENT, () -> x.tap(0, LAST_TICK + 1, 1));
        dueThrow("p12 force 0", x, ARGUMENT, () -> x.tap(0, 0, 0));
        dueThrow("p12 force 128", x, ARGUMENT, () -> x.tap(0, 0, 128));
        for (int w : WILD) {
            dueThrow("p12 track " + w, x, INDEX, () -> x.tap(w, w, 1));
            dueThrow("p12 tick " + w, x, ARGUMENT, () -> x.tap(0, w, 1));
            dueThrow("p12 force " + w, x, ARGUMENT, () -> x.tap(0, 0, w));
        }
    }

    private static void p13Tracks() {
        PolyDrums x = new PolyDrums();
        for (int k = 1; k <= 8; k++) {
            x.addTrack(k, k);
            due("p13 tracks", k, x.tracks());
        }
        dueThrow("p13 a ninth", x, STATE, () -> x.addTrack(1, 1));
        due("p13 still 8", 8, x.tracks());
    }

    private static void p14AddSection() {
        PolyDrums x = new PolyDrums();
        due("p14 first", 0, x.addSection(5000, 255, true));
        due("p14 second", 5000, x.addSection(1, 0, false));
        for (int k = 2; k < 12; k++) {
            due("p14 section " + k, 5001 + (k - 2) * 100, x.addSection(100, k, k % 2 == 0));
        }
        dueThrow("p14 a thirteenth", x, STATE, () -> x.addSection(1, 1, true));
        dueThrow("p14 one that is wrong", x, ARGUMENT, () -> x.addSection(0, 1, true));
        x.dropSection();
        due("p14 in its place", 5901, x.addSection(1, 255, false));
        dueThrow("p14 length 5001", x, ARGUMENT, () -> x.addSection(5001, 1, true));
        dueThrow("p14 set 256", x, ARGUMENT, () -> x.addSection(1, 256, true));
        for (int w : WILD) {
            dueThrow("p14 length " + w, x, ARGUMENT, () -> x.addSection(w, 1, true));
            dueThrow("p14 set " + w, x, ARGUMENT, () -> x.addSection(1, w, true));
        }
        PolyDrums few = new PolyDrums();
        dueThrow("p14 length 0", few, ARGUMENT, () -> few.addSection(0, 1, true));
        dueThrow("p14 set -1", few, ARGUMENT, () -> few.addSection(1, -1, false));
    }

    private static void p15DropSection() {
        PolyDrums x = new PolyDrums();
        dueThrow("p15 none", x, STATE, () -> x.dropSection());
        x.addSection(10, 1, true);
        x.addSection(20, 2, false);
        due("p15 one is left", 1, x.dropSection());
        due("p15 length", 10, x.length());
        due("p15 sectionAt", -1, x.sectionAt(10));
        due("p15 none is left", 0, x.dropSection());
        due("p15 no length", 0, x.length());
        dueThrow("p15 none again", x, STATE, () -> x.dropSection());
        x.addTrack(1, 1);
        x.set(0, 0, 1, 1);
        x.addSection(10, 0, true);
        due("p15 not in the set", 0, x.hits(5));
        x.dropSection();
        due("p15 all play again", 1, x.hits(LAST_TICK));
    }

    private static void p16SectionAt() {
        PolyDrums x = new PolyDrums();
        due("p16 none", -1, x.sectionAt(LAST_TICK));
        x.addSection(10, 1, true);
        x.addSection(1, 0, false);
        x.addSection(20, 2, true);
        int[][] ticks = {{0, 0}, {9, 0}, {10, 1}, {11, 2}, {30, 2}, {31, -1}, {LAST_TICK, -1}};
        for (int[] t : ticks) {
            due("p16 tick " + t[0], t[1], x.sectionAt(t[0]));
        }
        dueThrow("p16 tick", x, ARGUMENT, () -> x.sectionAt(LAST_TICK + 1));
        for (int w : WILD) {
            dueThrow("p16 tick " + w, x, ARGUMENT, () -> x.sectionAt(w));
        }
    }

    private static void p17Length() {
        PolyDrums x = new PolyDrums();
        for (int k = 1; k <= 12; k++) {
            x.addSection(5000 - k % 2, 0, true);
            due("p17 length", 5000 * k - (k + 1) / 2, x.length());
        }
    }

    private static void p18Loudness() {
        PolyDrums x = withTracks(2, 10, 1, 10, 1, 20);
        x.set(0, 0, 100, 1);
        x.set(0, 1, 127, 1);
        x.set(1, 0, 31, 1);
        x.set(2, 0, 36, 1);
        due("p18 without accents", 100, x.loudness(0, 20));
        due("p18 no hit", 0, x.loudness(0, 21));
        x.turn(1, 2, true);
        due("p18 an accent makes no hit", 0, x.loudness(1, 0));
        due("p18 one accent, cut", 107, x.loudness(0, 0));
        due("p18 not above 127", 127, x.loudness(0, 10));
        due("p18 no accent makes a hit", 0, x.loudness(0, 5));
        x.turn(2, 2, true);
        // 31 / 4 + 36 / 4 would be 16: they are divided all together.
        due("p18 two accents", 100 + 67 / 4, x.loudness(0, 0));
        x.set(2, 0, 37, 1);
        due("p18 two accents together", 117, x.loudness(0, 0));
        x.turn(2, 0, true);
        due("p18 a muted accent", 107, x.loudness(0, 0));
        x.turn(0, 1, true);
        due("p18 accents left out by a solo", 100, x.loudness(0, 0));
        x.turn(1, 1, true);
        due("p18 an accent that is solo", 107, x.loudness(0, 0));
        x.turn(0, 0, true);
        due("p18 muted", 0, x.loudness(0, 0));
        PolyDrums first = withTracks(1, 10, 1, 10);
        first.set(0, 0, 8, 1);
        first.set(1, 0, 1, 1);
        first.turn(0, 2, true);
        due("p18 track 0 is the accent", 3, first.loudness(1, 0));
        dueThrow("p18 track", x, INDEX, () -> x.loudness(3, LAST_TICK + 1));
        dueThrow("p18 tick", x, ARGUMENT, () -> x.loudness(0, LAST_TICK + 1));
        for (int w : WILD) {
            dueThrow("p18 track " + w, x, INDEX, () -> x.loudness(w, 0));
            dueThrow("p18 tick " + w, x, ARGUMENT, () -> x.loudness(0, w));
        }
    }

    private static void p18LoudnessInSections() {
        PolyDrums x = withTracks(1, 10, 1, 10);
        x.set(0, 0, 50, 1);
        x.set(1, 0, 40, 1);
        x.turn(1, 2, true);
        x.addSection(15, 3, false);
        x.addSection(15, 1, true);
        x.addSection(15, 2, false);
        due("p18 with the accent", 60, x.loudness(0, 10));
        due("p18 the accent does not play", 50, x.loudness(0, 15));
        due("p18 anew", 50, x.loudness(0, 25));
        due("p18 not by the tick", 0, x.loudness(0, 20));
        due("p18 not in the set", 0, x.loudness(0, 30));
        due("p18 behind the last section", 0, x.loudness(0, 50));
    }

    private static void p19Hits() {
        PolyDrums x = withTracks(1, 1, 3, 7, 2, 5);
        x.spread(0, 1, 1);
        x.set(1, 1, 2, 1);
        x.setTurn(1, 1, 1, 3);
        x.set(2, 0, 9, 1);
        due("p19 0", 5, x.hits(0));
        due("p19 1", 1, x.hits(1));
        due("p19 not in this round", 1, x.hits(7));
        due("p19 its turn", 3, x.hits(21 + 7));
        due("p19 all", 7, x.hits(280));
        due("p19 the last tick", 1, x.hits(LAST_TICK));
        x.turn(2, 1, true);
        due("p19 solo", 4, x.hits(0));
        x.turn(0, 1, true);
        due("p19 two solos", 5, x.hits(0));
        x.turn(2, 0, true);
        x.turn(0, 1, false);
        due("p19 a muted solo leaves the others out", 0, x.hits(0));
        x.turn(2, 1, false);
        due("p19 muted", 1, x.hits(0));
        x.turn(0, 2, true);
        due("p19 an accent", 0, x.hits(0));
        dueThrow("p19 tick", x, ARGUMENT, () -> x.hits(LAST_TICK + 1));
        for (int w : WILD) {
            dueThrow("p19 tick " + w, x, ARGUMENT, () -> x.hits(w));
        }
        PolyDrums eight = withTracks(1, 1, 1, 1, 1, 1, 1, 1, 1, 1, 1, 1, 1, 1, 1, 1);
        for (int k = 0; k < 8; k++) {
            eight.set(k, 0, 1, 1);
        }
        due("p19 eight", 255, eight.hits(3));
        eight.addSection(5, 170, false);
        due("p19 eight in a section", 170, eight.hits(4));
        due("p19 eight behind it", 0, eight.hits(5));
    }

    private static void p19Strokes() {
        PolyDrums x = withTracks(2, 10, 1, 3);
        x.set(0, 0, 5, 3);
        x.set(0, 1, 5, 4);
        due("p19 strokes", "0 3 6 10 12 15 17", hitTicks(x, 0, 0, 20));
        x.tune(0, 3, 10, 0);
        due("p19 strokes behind a delay", "0 3 6 13 14 16 18", hitTicks(x, 0, 0, 20));
        x.tune(0, 9, 10, 0);
        due("p19 strokes on one tick", "0 3 6 19 20 23 26", hitTicks(x, 0, 0, 30));
        x.set(1, 0, 5, 4);
        due("p19 more strokes than ticks", "0 1 2 3", hitTicks(x, 1, 0, 4));
        x.set(1, 0, 5, 2);
        due("p19 two strokes", "0 1 3 4 6", hitTicks(x, 1, 0, 7));
        x.setTurn(0, 0, 0, 2);
        x.set(0, 1, 0, 4);
        due("p19 every other round", "0 3 6 40 43 46", hitTicks(x, 0, 0, 80));
    }

    private static void p20Sounding() {
        PolyDrums x = withTracks(1, 48, 4, 40);
        x.set(0, 0, 1, 1);
        due("p20 from its tick on", 1, x.sounding(0));
        due("p20 its last tick", 1, x.sounding(9));
        due("p20 behind its ring", 0, x.sounding(10));
        due("p20 again", 1, x.sounding(48));
        x.tune(0, 0, 1, 0);
        due("p20 ring 1", 1, x.sounding(96));
        due("p20 behind ring 1", 0, x.sounding(97));
        x.tune(0, 0, 48, 0);
        due("p20 until the next hit", 1, x.sounding(47));
        x.tune(1, 0, 200, 0);
        x.set(1, 1, 3, 1);
        x.setTurn(1, 1, 1, 8);
        x.turn(0, 0, true);
        due("p20 ahead of the first hit", 0, x.sounding(199));
        due("p20 a long ring", 2, x.sounding(200));
        due("p20 the end of a long ring", 2, x.sounding(399));
        due("p20 behind a long ring", 0, x.sounding(400));
        x.addSection(201, 3, false);
        due("p20 on behind the last section", 2, x.sounding(399));
        due("p20 not longer", 0, x.sounding(400));
        x.addSection(300, 0, true);
        due("p20 on in a section without it", 2, x.sounding(399));
        x.turn(1, 2, true);
        due("p20 an accent does not sound", 0, x.sounding(200));
        dueThrow("p20 tick", x, ARGUMENT, () -> x.sounding(LAST_TICK + 1));
        for (int w : WILD) {
            dueThrow("p20 tick " + w, x, ARGUMENT, () -> x.sounding(w));
        }
        PolyDrums last = withTracks(1, 1);
        last.set(0, 0, 1, 1);
        due("p20 the last tick", 1, last.sounding(LAST_TICK));
    }

    private static void p20SoundingInGroups() {
        PolyDrums x = withTracks(4, 10, 4, 10, 4, 10);
        for (int k = 0; k < 3; k++) {
            x.tune(k, 0, 30, 0);
        }
        x.set(0, 0, 9, 1);
        x.set(1, 1, 9, 1);
        x.set(2, 0, 9, 1);
        due("p20 without groups", 7, x.sounding(10));
        x.tune(0, 0, 30, 1);
        due("p20 alone in its group", 7, x.sounding(10));
        x.tune(1, 0, 30, 1);
        due("p20 ahead of the choke", 5, x.sounding(9));
        due("p20 choked", 6, x.sounding(10));
        due("p20 stays choked", 6, x.sounding(29));
        due("p20 the choker's ring", 2, x.sounding(39));
        due("p20 chokes back", 5, x.sounding(40));
        x.tune(2, 0, 30, 1);
        due("p20 at one tick the greater number", 4, x.sounding(0));
        due("p20 at one tick, later", 4, x.sounding(9));
        x.set(1, 0, 9, 1);
        x.set(1, 1, 0, 1);
        due("p20 three at one tick", 4, x.sounding(0));
        x.tune(2, 0, 30, 2);
        due("p20 another group", 6, x.sounding(0));
        // The choker's ring ends, but what it choked stays so.
        x.tune(1, 0, 1, 1);
        due("p20 the choker itself", 6, x.sounding(0));
        due("p20 behind the choker's ring", 4, x.sounding(1));
        x.turn(1, 2, true);
        due("p20 an accent does not choke", 5, x.sounding(0));
        x.turn(1, 2, false);
        x.turn(1, 0, true);
        due("p20 a muted one does not choke", 5, x.sounding(0));
        PolyDrums zero = withTracks(1, 10, 1, 10);
        zero.set(0, 0, 1, 1);
        zero.set(1, 0, 1, 1);
        due("p20 group 0 is none", 3, zero.sounding(0));
    }

    private static void p21Next() {
        PolyDrums x = withTracks(32, 48, 1, 1);
        x.set(0, 0, 1, 1);
        x.set(1, 0, 1, 1);
        due("p21 this tick", 0, x.next(0, 0));
        due("p21 the next round", 1536, x.next(0, 1));
        x.setTurn(0, 0, 0, 2);
        due("p21 3000 ticks on", 3072, x.next(0, 72));
        due("p21 more than 3000 ticks on", -1, x.next(0, 71));
        due("p21 the last tick", LAST_TICK, x.next(1, LAST_TICK));
        // 99840 is the begin of round 65, 101376 would be that of round 66.
        due("p21 none up to the last tick", -1, x.next(0, 98305));
        x.setTurn(0, 0, 1, 2);
        due("p21 in the last round", 99840, x.next(0, 98305));
        due("p21 not beyond the last tick", -1, x.next(0, 99841));
        x.turn(1, 0, true);
        due("p21 muted", -1, x.next(1, 5));
        x.turn(1, 0, false);
        x.turn(1, 2, true);
        due("p21 an accent", -1, x.next(1, 5));
        x.turn(1, 2, false);
        x.addSection(100, 1, true);
        x.addSection(100, 2, true);
        due("p21 in its section", 100, x.next(1, 3));
        due("p21 behind its section", -1, x.next(1, 200));
        dueThrow("p21 track", x, INDEX, () -> x.next(2, LAST_TICK + 1));
        dueThrow("p21 tick", x, ARGUMENT, () -> x.next(0, LAST_TICK + 1));
        for (int w : WILD) {
            dueThrow("p21 track " + w, x, INDEX, () -> x.next(w, 0));
            dueThrow("p21 tick " + w, x, ARGUMENT, () -> x.next(0, w));
        }
    }

    private static void p22Count() {
        PolyDrums x = withTracks(2, 10, 1, 1);
        x.set(0, 0, 1, 2);
        x.set(1, 0, 1, 4);
        due("p22 a round", 2, x.count(0, 0, 20));
        due("p22 from on, ahead of to", 1, x.count(0, 0, 5));
        due("p22 with the stroke", 2, x.count(0, 0, 6));
        due("p22 behind from", 1, x.count(0, 1, 20));
        due("p22 nothing", 0, x.count(0, 7, 7));
        due("p22 one tick counts once", 3000, x.count(1, 0, 3000));
        due("p22 the last ticks", 3000, x.count(1, LAST_TICK - 3000, LAST_TICK));
        due("p22 at the last tick", 0, x.count(1, LAST_TICK, LAST_TICK));
        x.turn(1, 2, true);
        due("p22 an accent", 0, x.count(1, 0, 3000));
        x.addSection(25, 1, false);
        x.addSection(25, 1, true);
        // 0, 5 and 20, then the same behind tick 25.
        due("p22 in sections", 6, x.count(0, 0, 100));
        dueThrow("p22 track", x, INDEX, () -> x.count(2, 5, 4));
        checkSpans("p22", x, (from, to) -> x.count(0, from, to));
        for (int w : WILD) {
            dueThrow("p22 track " + w, x, INDEX, () -> x.count(w, 0, 1));
        }
    }

    private interface Span {
        Object answer(int from, int to);
    }

    private static void checkSpans(String what, PolyDrums x, Span span) {
        int[][] bad = {{0, 3001}, {5, 4}, {LAST_TICK, LAST_TICK + 1}, {LAST_TICK + 1, LAST_TICK + 1},
            {-1, -1}, {-1, 0}, {0, -1}, {Integer.MIN_VALUE, Integer.MAX_VALUE},
            {Integer.MAX_VALUE, Integer.MIN_VALUE}, {0, Integer.MIN_VALUE},
            {Integer.MIN_VALUE, 0}, {0, LAST_TICK}};
        for (int[] b : bad) {
            dueThrow(what + " from " + b[0] + " to " + b[1], x, ARGUMENT,
                    () -> span.answer(b[0], b[1]));
        }
    }

    private static void p23Together() {
        PolyDrums x = withTracks(3, 4, 4, 3, 1, 1);
        x.set(0, 0, 1, 2);
        x.spread(1, 4, 1);
        due("p23 both", 9, x.together(0, 1, 0, 100));
        due("p23 the other way", 9, x.together(1, 0, 0, 100));
        due("p23 from on, ahead of to", 1, x.together(0, 1, 12, 24));
        due("p23 with to", 2, x.together(0, 1, 12, 25));
        due("p23 with itself", 2, x.together(0, 0, 0, 12));
        due("p23 nothing", 0, x.together(0, 1, 12, 12));
        due("p23 without forces", 0, x.together(0, 2, 0, 3000));
        x.set(2, 0, 1, 1);
        due("p23 3000 ticks", 3000, x.together(2, 2, LAST_TICK - 3000, LAST_TICK));
        x.turn(1, 2, true);
        due("p23 with an accent", 0, x.together(0, 1, 0, 100));
        dueThrow("p23 a", x, INDEX, () -> x.together(3, 0, 5, 4));
        dueThrow("p23 b", x, INDEX, () -> x.together(0, 3, 5, 4));
        checkSpans("p23", x, (from, to) -> x.together(0, 1, from, to));
        for (int w : WILD) {
            dueThrow("p23 a " + w, x, INDEX, () -> x.together(w, 0, 0, 1));
            dueThrow("p23 b " + w, x, INDEX, () -> x.together(0, w, 0, 1));
        }
    }

    private static void p24Rounds() {
        PolyDrums x = withTracks(8, 1);
        due("p24 none", 1, x.rounds(0));
        for (int s = 0; s < 8; s++) {
            x.setTurn(0, s, 0, s + 1);
        }
        due("p24 without forces", 1, x.rounds(0));
        int[] want = {1, 2, 6, 12, 60, 60, 420, 840};
        for (int s = 0; s < 8; s++) {
            x.set(0, s, 1, 4);
            due("p24 up to step " + s, want[s], x.rounds(0));
        }
        x.stretch(0, 3);
        due("p24 only its steps", 6, x.rounds(0));
        x.turn(0, 0, true);
        due("p24 muted", 6, x.rounds(0));
        dueThrow("p24 track", x, INDEX, () -> x.rounds(1));
        for (int w : WILD) {
            dueThrow("p24 track " + w, x, INDEX, () -> x.rounds(w));
        }
    }

    private static void p25Period() {
        PolyDrums x = withTracks(3, 4, 4, 6);
        due("p25 two tracks", 24L, x.period());
        x.setTurn(0, 0, 4, 5);
        due("p25 without a force", 24L, x.period());
        x.set(0, 0, 1, 1);
        due("p25 with rounds", 120L, x.period());
        x.turn(0, 0, true);
        x.turn(1, 2, true);
        x.addSection(7, 1, true);
        due("p25 of all tracks", 120L, x.period());
        PolyDrums most = withTracks(31, 47, 29, 43);
        due("p25 large", 31L * 47 * 29 * 43, most.period());
        most.addTrack(23, 41);
        due("p25 too large", -1L, most.period());
        most.addTrack(1, 1);
        due("p25 still too large", -1L, most.period());
        p25PeriodAtTheLimit();
    }

    private static void p25PeriodAtTheLimit() {
        // 10 ^ 9 itself needs a 5 ^ 9, which no track has: these are the nearest that can be.
        PolyDrums below = withTracks(27, 8, 25, 5, 7, 11, 13, 37);
        due("p25 just below the limit", 999999000L, below.period());
        below.set(0, 0, 1, 1);
        below.setTurn(0, 0, 0, 8);
        due("p25 rounds beyond the limit", -1L, below.period());
        PolyDrums above = withTracks(7, 7, 23, 47, 29, 31);
        above.set(0, 0, 1, 1);
        above.setTurn(0, 0, 6, 7);
        due("p25 a third of what is above", 333333917L, above.period());
        above.addTrack(3, 1);
        due("p25 just above the limit", -1L, above.period());
        PolyDrums all = withTracks(31, 47, 29, 43, 23, 41, 19, 37, 17, 48, 13, 25, 32, 47, 27, 35);
        due("p25 beyond a long", -1L, all.period());
    }

    private static void p26Density() {
        PolyDrums x = withTracks(4, 10);
        due("p26 none", 0.0, x.density(0));
        x.set(0, 0, 1, 1);
        x.setTurn(0, 0, 0, 3);
        x.set(0, 1, 0, 4);
        x.set(0, 2, 1, 4);
        x.setTurn(0, 2, 6, 7);
        x.set(0, 3, 1, 3);
        due("p26 in ascending order", 1.0 / 3.0 + 4.0 / 7.0 + 3.0, x.density(0));
        x.stretch(0, 32);
        double sum = 0.0;
        for (int i = 0; i < 8; i++) {
            sum = sum + 1.0 / 3.0;
            sum = sum + 4.0 / 7.0;
            sum = sum + 3.0;
        }
        due("p26 32 steps", sum, x.density(0));
        x.stretch(0, 1);
        x.turn(0, 0, true);
        due("p26 one step, muted", 1.0 / 3.0, x.density(0));
        dueThrow("p26 track", x, INDEX, () -> x.density(1));
        for (int w : WILD) {
            dueThrow("p26 track " + w, x, INDEX, () -> x.density(w));
        }
    }

    private static void p27SetSpeed() {
        PolyDrums x = new PolyDrums();
        due("p27 at first", 120, x.setSpeed(30));
        due("p27 the least", 30, x.setSpeed(300));
        dueThrow("p27 29", x, ARGUMENT, () -> x.setSpeed(29));
        dueThrow("p27 301", x, ARGUMENT, () -> x.setSpeed(301));
        for (int w : WILD) {
            dueThrow("p27 " + w, x, ARGUMENT, () -> x.setSpeed(w));
        }
        due("p27 the most", 300, x.setSpeed(120));
    }

    private static void p28Seconds() {
        PolyDrums x = new PolyDrums();
        due("p28 0", 0.0, x.seconds(0));
        due("p28 a beat", 0.5, x.seconds(24));
        due("p28 a tick", 0.5 / 24.0, x.seconds(1));
        due("p28 the last", 99999.0 * 60.0 / 120.0 / 24.0, x.seconds(LAST_TICK));
        x.setSpeed(97);
        for (int t = 1; t < 100; t++) {
            due("p28 tick " + t, t * 60.0 / 97.0 / 24.0, x.seconds(t));
        }
        dueThrow("p28 tick", x, ARGUMENT, () -> x.seconds(LAST_TICK + 1));
        for (int w : WILD) {
            dueThrow("p28 tick " + w, x, ARGUMENT, () -> x.seconds(w));
        }
    }

    private static long digestOf(long... numbers) {
        long d = 313;
        for (long x : numbers) {
            d = d * 31 + x;
        }
        return d;
    }

    private static void p29Digest() {
        PolyDrums x = new PolyDrums();
        x.setSpeed(77);
        due("p29 empty", digestOf(77, 0, 0), x.digest());
        x.addTrack(2, 9);
        due("p29 a track", digestOf(77, 1, 2, 9, 0, 10, 0, 0, 0, 0, 0, 1, 0, 1, 0, 1, 0, 1, 0),
                x.digest());
        x.tune(0, 8, 150, 3);
        x.turn(0, 0, true);
        x.turn(0, 2, true);
        x.set(0, 1, 99, 4);
        x.setTurn(0, 1, 2, 7);
        x.addTrack(1, 1);
        x.turn(1, 1, true);
        x.addSection(500, 3, true);
        x.addSection(7, 255, false);
        due("p29 all", digestOf(77, 2, 2, 9, 8, 150, 3, 1, 0, 1, 0, 1, 0, 1, 99, 4, 2, 7,
                1, 1, 0, 10, 0, 0, 1, 0, 0, 1, 0, 1, 2, 500, 3, 1, 7, 255, 0), x.digest());
        x.stretch(0, 1);
        x.dropSection();
        due("p29 less", digestOf(77, 2, 1, 9, 8, 150, 3, 1, 0, 1, 0, 1, 0, 1,
                1, 1, 0, 10, 0, 0, 1, 0, 0, 1, 0, 1, 1, 500, 3, 1), x.digest());
        due("p29 twice", x.digest(), x.digest());
    }
}
