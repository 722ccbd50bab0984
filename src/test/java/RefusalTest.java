/**
 * Tests each sentence of the document by which a call is refused: one method a sentence, with the
 * last values that are allowed and the first ones that are not. A refused call must throw just what
 * the document names, and all that the machine tells must be as it was ahead of the call.
 *
 * Each call is tried on a machine of its own, so that none is used for more than 512 calls.
 */
public final class RefusalTest {
    private static final Class<?> INDEX = IndexOutOfBoundsException.class;
    private static final Class<?> ARGUMENT = IllegalArgumentException.class;
    private static final Class<?> STATE = IllegalStateException.class;
    private static final int LAST_TICK = 99999;

    private static String sentence = "";
    private static int wrong = 0;
    private static int checks = 0;

    private interface Call {
        Object on(PolyDrums x);
    }

    private interface CallWith {
        Object on(PolyDrums x, int value);
    }

    private interface CallWithTwo {
        Object on(PolyDrums x, int a, int b);
    }

    private enum Machine {
        EMPTY, LEAST, USED, FULL;

        PolyDrums make() {
            switch (this) {
                case EMPTY: return new PolyDrums();
                case LEAST: return least();
                case USED: return used();
                default: return full();
            }
        }

        private static PolyDrums least() {
            PolyDrums x = new PolyDrums();
            x.addTrack(1, 1);
            x.set(0, 0, 1, 1);
            x.addSection(1, 1, true);
            return x;
        }

        private static PolyDrums used() {
            PolyDrums x = new PolyDrums();
            x.addTrack(4, 10);
            x.addTrack(5, 1);
            x.addTrack(32, 48);
            x.set(0, 0, 90, 2);
            x.set(0, 3, 60, 4);
            x.setTurn(0, 3, 2, 5);
            x.tune(0, 4, 20, 1);
            x.spread(1, 3, 33);
            x.turn(1, 2, true);
            x.spread(2, 7, 127);
            x.setTurn(2, 31, 7, 8);
            x.tune(2, 11, 150, 1);
            x.addSection(100, 7, false);
            x.addSection(50, 5, true);
            x.setSpeed(97);
            return x;
        }

        private static PolyDrums full() {
            PolyDrums x = new PolyDrums();
            for (int k = 0; k < 8; k++) {
                x.addTrack(32, 48);
                x.spread(k, 4 * k + 1, 10 * k + 1);
                x.tune(k, 6 * k, 25 * k + 1, k % 4);
            }
            for (int k = 0; k < 12; k++) {
                x.addSection(5000, 255 - k, k % 2 == 1);
            }
            return x;
        }
    }

    public static void main(String[] args) {
        tracksAndSteps();
        sectionsAndTicks();
        whatSounds();
        firstNamed();
        System.out.println("RefusalTest: " + checks + " checks, " + wrong + " wrong");
        if (wrong != 0) {
            System.exit(1);
        }
    }

    private static void tracksAndSteps() {
        p2Argument();
        p2State();
        p3Index();
        p3Argument();
        p4Index();
        p4Argument();
        p5Index();
        p6Index();
        p7Index();
        p7Argument();
        p8Index();
        p9Index();
        p9Argument();
        p10Index();
        p10Argument();
        p11Index();
        p11Argument();
        p12Index();
        p12Argument();
    }

    private static void sectionsAndTicks() {
        p14Argument();
        p14State();
        p15State();
        p16Argument();
    }

    private static void whatSounds() {
        p18Index();
        p18Argument();
        p19Argument();
        p20Argument();
        p21Index();
        p21Argument();
        p22Index();
        p22Argument();
        p23Index();
        p23Argument();
        p24Index();
        p26Index();
        p27Argument();
        p28Argument();
    }

    private static void firstNamed() {
        firstNamedOfAddTrack();
        firstNamedOfSteps();
        firstNamedOfTracks();
        firstNamedOfAddSection();
        firstNamedOfSounds();
    }

    // ---- how a call is tried

    private static void sentence(int promise, String words) {
        sentence = "promise " + promise + ", \"" + words + "\"";
    }

    private static void due(String what, Object want, Object got) {
        checks++;
        if (!want.equals(got)) {
            wrong++;
            System.out.println(sentence + ": " + what + ": answered " + got + ", due is " + want);
        }
    }

    private static Object answer(PolyDrums x, Call call) {
        try {
            return call.on(x);
        } catch (RuntimeException e) {
            return e.getClass();
        }
    }

    /** All that a machine tells, but for the steps between a track's first and last one. */
    private static String told(PolyDrums x) {
        StringBuilder text = new StringBuilder();
        text.append(x.digest()).append(' ').append(x.tracks()).append(' ').append(x.length());
        text.append(' ').append(x.period()).append(' ').append(x.seconds(24));
        for (int tick : new int[] {0, 37, LAST_TICK}) {
            text.append(" | ").append(x.hits(tick)).append(' ').append(x.sounding(tick));
            text.append(' ').append(x.sectionAt(tick));
        }
        for (int k = 0; k < x.tracks(); k++) {
            toldOfTrack(x, k, text);
        }
        return text.toString();
    }

    private static void toldOfTrack(PolyDrums x, int k, StringBuilder text) {
        text.append(" |");
        for (int what = 0; what <= 7; what++) {
            text.append(' ').append(x.track(k, what));
        }
        int last = x.track(k, 0) - 1;
        for (int what = 0; what <= 4; what++) {
            text.append(' ').append(x.step(k, 0, what)).append(' ').append(x.step(k, last, what));
        }
        text.append(' ').append(x.rounds(k)).append(' ').append(x.density(k));
        text.append(' ').append(x.next(k, 1)).append(' ').append(x.loudness(k, 0));
    }

    /** What some calls that change a machine answer, and what it is behind them. */
    private static String goOn(PolyDrums x) {
        StringBuilder text = new StringBuilder();
        Call[] calls = {y -> y.dropSection(), y -> y.addSection(9, 255, true),
            y -> y.addTrack(2, 3), y -> y.set(0, 0, 99, 3), y -> y.rotate(0, 1),
            y -> y.stretch(0, 7), y -> y.setSpeed(61)};
        for (Call call : calls) {
            text.append(answer(x, call)).append(' ');
        }
        return text.append(x.digest()).toString();
    }

    private static void refused(String what, Machine machine, Class<?> want, Call call) {
        PolyDrums x = machine.make();
        String name = what + " on " + machine;
        String before = told(x);
        due(name, want, answer(x, call));
        due(name + ", what is told behind it", before, told(x));
        due(name + ", how it goes on", goOn(machine.make()), goOn(x));
    }

    private static void refusedWith(String what, Machine machine, Class<?> want, int[] values,
            CallWith call) {
        for (int v : values) {
            refused(what + " " + v, machine, want, x -> call.on(x, v));
        }
    }

    /** A value beyond the limits is refused; at the limits the call must answer that very value. */
    private static void limits(String what, Machine machine, Class<?> want, int least, int most,
            CallWith call) {
        int[] beyond = {least - 1, most + 1, Integer.MIN_VALUE, Integer.MAX_VALUE};
        refusedWith(what, machine, want, beyond, call);
        for (int v : new int[] {least, most}) {
            due(what + " " + v + " on " + machine, v, answer(machine.make(), x -> call.on(x, v)));
        }
    }

    /** The call must answer the number of the track that it is made with. */
    private static void noSuchTrack(CallWith call) {
        refusedWith("track", Machine.EMPTY, INDEX, new int[] {-1, 0, 1, 7, 8}, call);
        limits("track", Machine.LEAST, INDEX, 0, 0, call);
        limits("track", Machine.USED, INDEX, 0, 2, call);
        limits("track", Machine.FULL, INDEX, 0, 7, call);
    }

    /** The calls must answer the number of the step that they are made with. */
    private static void noSuchStep(CallWith ofTrack0, CallWith ofTrack1) {
        limits("the one step", Machine.LEAST, INDEX, 0, 0, ofTrack0);
        limits("step of 4", Machine.USED, INDEX, 0, 3, ofTrack0);
        limits("step of 5", Machine.USED, INDEX, 0, 4, ofTrack1);
        limits("step of 32", Machine.FULL, INDEX, 0, 31, ofTrack0);
    }

    /** The call must answer the tick that it is made with. */
    private static void noSuchTick(CallWith call) {
        limits("tick", Machine.LEAST, ARGUMENT, 0, LAST_TICK, call);
        limits("tick", Machine.USED, ARGUMENT, 0, LAST_TICK, call);
        limits("tick", Machine.FULL, ARGUMENT, 0, LAST_TICK, call);
    }

    private static void noSuchSpan(CallWithTwo call) {
        int least = Integer.MIN_VALUE;
        int most = Integer.MAX_VALUE;
        int[][] bad = {{-1, 0}, {-1, -1}, {0, -1}, {LAST_TICK, LAST_TICK + 1},
            {LAST_TICK + 1, LAST_TICK}, {LAST_TICK + 1, LAST_TICK + 1}, {1, 0},
            {LAST_TICK, LAST_TICK - 1}, {LAST_TICK, 0}, {0, 3001}, {500, 3501},
            {LAST_TICK - 3001, LAST_TICK}, {0, LAST_TICK}, {least, most}, {most, least},
            {least, least}, {most, most}, {least, 0}, {0, least}, {most, 0}, {0, most}};
        int[][] right = {{0, 0}, {0, 1}, {LAST_TICK, LAST_TICK}, {LAST_TICK - 1, LAST_TICK},
            {0, 3000}, {500, 3500}, {LAST_TICK - 3000, LAST_TICK}};
        for (Machine machine : new Machine[] {Machine.LEAST, Machine.USED, Machine.FULL}) {
            for (int[] b : bad) {
                refused("from " + b[0] + " to " + b[1], machine, ARGUMENT,
                        x -> call.on(x, b[0], b[1]));
            }
            for (int[] r : right) {
                Object got = answer(machine.make(), x -> call.on(x, r[0], r[1]));
                due("from " + r[0] + " to " + r[1] + " on " + machine + " is answered", true,
                        got instanceof Integer);
            }
        }
    }

    // ---- tracks and steps

    private static void p2Argument() {
        sentence(2, "Throws `IllegalArgumentException` if n is not 1 to 32, or d is not 1 to 48");
        for (Machine machine : new Machine[] {Machine.EMPTY, Machine.LEAST, Machine.USED}) {
            limits("n", machine, ARGUMENT, 1, 32, (x, n) -> x.track(x.addTrack(n, 5), 0));
            limits("d", machine, ARGUMENT, 1, 48, (x, d) -> x.track(x.addTrack(5, d), 1));
        }
        refused("n 0 and d 0", Machine.EMPTY, ARGUMENT, x -> x.addTrack(0, 0));
        refused("n 33 and d 49", Machine.USED, ARGUMENT, x -> x.addTrack(33, 49));
        // Their product is right, as a number of 32 bits too.
        refused("n -1 and d -1", Machine.EMPTY, ARGUMENT, x -> x.addTrack(-1, -1));
    }

    private static void p2State() {
        sentence(2, "Throws `IllegalStateException` if there are 8 tracks");
        refused("a ninth, the least", Machine.FULL, STATE, x -> x.addTrack(1, 1));
        refused("a ninth, the greatest", Machine.FULL, STATE, x -> x.addTrack(32, 48));
        PolyDrums x = new PolyDrums();
        for (int k = 0; k < 7; k++) {
            x.addTrack(1, 1);
        }
        due("the eighth", 7, answer(x, y -> y.addTrack(32, 48)));
        due("the ninth", STATE, answer(x, y -> y.addTrack(32, 48)));
        due("the ninth again", STATE, answer(x, y -> y.addTrack(1, 1)));
        due("there are 8", 8, x.tracks());
    }

    private static void p3Index() {
        sentence(3, "Throws `IndexOutOfBoundsException` if there is no such track or step");
        noSuchTrack((x, k) -> {
            x.set(k, 0, 126, 4);
            return x.step(k, 0, 0) == 126 ? k : "not set";
        });
        noSuchStep((x, s) -> setAndAsk(x, 0, s), (x, s) -> setAndAsk(x, 1, s));
    }

    private static Object setAndAsk(PolyDrums x, int track, int step) {
        x.set(track, step, 125, 3);
        return x.step(track, step, 0) == 125 ? step : "not set";
    }

    private static void p3Argument() {
        sentence(3, "Throws `IllegalArgumentException` if force is not 0 to 127, "
                + "or r is not 1 to 4");
        for (Machine machine : new Machine[] {Machine.LEAST, Machine.USED, Machine.FULL}) {
            limits("force", machine, ARGUMENT, 0, 127, (x, force) -> {
                x.set(0, 0, force, 3);
                return x.step(0, 0, 0);
            });
            limits("r", machine, ARGUMENT, 1, 4, (x, r) -> {
                x.set(0, 0, 7, r);
                return x.step(0, 0, 1);
            });
            limits("r of a force 0", machine, ARGUMENT, 1, 4, (x, r) -> {
                x.set(0, 0, 0, r);
                return x.step(0, 0, 1);
            });
        }
        refused("force 128 and r 0", Machine.USED, ARGUMENT, x -> x.set(0, 0, 128, 0));
    }

    private static void p4Index() {
        sentence(4, "Throws `IndexOutOfBoundsException` if there is no such track or step");
        noSuchTrack((x, k) -> {
            x.setTurn(k, 0, 5, 6);
            return x.step(k, 0, 2) == 5 ? k : "not set";
        });
        noSuchStep((x, s) -> setTurnAndAsk(x, 0, s), (x, s) -> setTurnAndAsk(x, 1, s));
    }

    private static Object setTurnAndAsk(PolyDrums x, int track, int step) {
        x.setTurn(track, step, 4, 6);
        return x.step(track, step, 2) == 4 ? step : "not set";
    }

    private static void p4Argument() {
        sentence(4, "Throws `IllegalArgumentException` if b is not 1 to 8, or a is not 0 to b - 1");
        for (Machine machine : new Machine[] {Machine.LEAST, Machine.USED, Machine.FULL}) {
            limits("b", machine, ARGUMENT, 1, 8, (x, b) -> {
                x.setTurn(0, 0, 0, b);
                return x.step(0, 0, 3);
            });
            for (int b = 1; b <= 8; b++) {
                int turns = b;
                limits("a of " + b, machine, ARGUMENT, 0, b - 1, (x, a) -> {
                    x.setTurn(0, 0, a, turns);
                    return x.step(0, 0, 2);
                });
            }
        }
        refused("8 of 9", Machine.USED, ARGUMENT, x -> x.setTurn(0, 0, 8, 9));
        refused("0 of 0", Machine.USED, ARGUMENT, x -> x.setTurn(0, 0, 0, 0));
        refused("-1 of 0", Machine.USED, ARGUMENT, x -> x.setTurn(0, 0, -1, 0));
        // b - 1 wraps around to the greatest number.
        refused("0 of the least number", Machine.USED, ARGUMENT,
                x -> x.setTurn(0, 0, 0, Integer.MIN_VALUE));
        refused("much of the least number", Machine.USED, ARGUMENT,
                x -> x.setTurn(0, 0, 5, Integer.MIN_VALUE));
    }

    private static void p5Index() {
        sentence(5, "Throws `IndexOutOfBoundsException` if there is no such track or step, "
                + "or what is not 0 to 4");
        noSuchTrack((x, k) -> x.step(k, 0, 1) >= 1 ? k : "no strokes");
        noSuchStep((x, s) -> x.step(0, s, 1) >= 1 ? s : "no strokes",
                (x, s) -> x.step(1, s, 1) >= 1 ? s : "no strokes");
        for (Machine machine : new Machine[] {Machine.LEAST, Machine.USED, Machine.FULL}) {
            limits("what", machine, INDEX, 0, 4, (x, what) -> {
                int got = x.step(0, 0, what);
                return got >= 0 ? what : "below 0";
            });
        }
    }

    private static void p6Index() {
        sentence(6, "Throws `IndexOutOfBoundsException` if there is no such track, "
                + "or what is not 0 to 7");
        noSuchTrack((x, k) -> x.track(k, 0) >= 1 ? k : "no steps");
        for (Machine machine : new Machine[] {Machine.LEAST, Machine.USED, Machine.FULL}) {
            limits("what", machine, INDEX, 0, 7, (x, what) -> {
                int got = x.track(0, what);
                return got >= 0 ? what : "below 0";
            });
        }
    }

    private static void p7Index() {
        sentence(7, "Throws `IndexOutOfBoundsException` if there is no such track");
        noSuchTrack((x, k) -> {
            x.tune(k, 0, 77, 3);
            return x.track(k, 3) == 77 ? k : "not set";
        });
    }

    private static void p7Argument() {
        sentence(7, "Throws `IllegalArgumentException` if swing is not 0 to d - 1, "
                + "ring is not 1 to 200, or group is not 0 to 3");
        limits("swing of d 1", Machine.LEAST, ARGUMENT, 0, 0, (x, swing) -> swingOf(x, 0, swing));
        limits("swing of d 10", Machine.USED, ARGUMENT, 0, 9, (x, swing) -> swingOf(x, 0, swing));
        limits("swing of d 1", Machine.USED, ARGUMENT, 0, 0, (x, swing) -> swingOf(x, 1, swing));
        limits("swing of d 48", Machine.FULL, ARGUMENT, 0, 47, (x, swing) -> swingOf(x, 7, swing));
        for (Machine machine : new Machine[] {Machine.LEAST, Machine.USED, Machine.FULL}) {
            limits("ring", machine, ARGUMENT, 1, 200, (x, ring) -> {
                x.tune(0, 0, ring, 2);
                return x.track(0, 3);
            });
            limits("group", machine, ARGUMENT, 0, 3, (x, group) -> {
                x.tune(0, 0, 9, group);
                return x.track(0, 4);
            });
        }
        refused("all three", Machine.USED, ARGUMENT, x -> x.tune(0, 10, 0, 4));
    }

    private static Object swingOf(PolyDrums x, int track, int swing) {
        x.tune(track, swing, 9, 1);
        return x.track(track, 2);
    }

    private static void p8Index() {
        sentence(8, "Throws `IndexOutOfBoundsException` if there is no such track, "
                + "or what is not 0 to 2");
        noSuchTrack((x, k) -> {
            x.turn(k, 1, true);
            return x.track(k, 6) == 1 ? k : "not on";
        });
        for (Machine machine : new Machine[] {Machine.LEAST, Machine.USED, Machine.FULL}) {
            for (boolean isOn : new boolean[] {false, true}) {
                limits("what", machine, INDEX, 0, 2, (x, what) -> {
                    x.turn(0, what, isOn);
                    return x.track(0, 5 + what) == (isOn ? 1 : 0) ? what : "not so";
                });
            }
        }
    }

    private static void p9Index() {
        sentence(9, "Throws `IndexOutOfBoundsException` if there is no such track");
        noSuchTrack((x, k) -> {
            x.spread(k, 1, 124);
            return x.step(k, 0, 0) == 124 ? k : "not spread";
        });
    }

    private static void p9Argument() {
        sentence(9, "Throws `IllegalArgumentException` if hits is not 0 to n, "
                + "or force is not 1 to 127");
        limits("hits of n 1", Machine.LEAST, ARGUMENT, 0, 1, (x, hits) -> spreadHits(x, 0, hits));
        limits("hits of n 4", Machine.USED, ARGUMENT, 0, 4, (x, hits) -> spreadHits(x, 0, hits));
        limits("hits of n 5", Machine.USED, ARGUMENT, 0, 5, (x, hits) -> spreadHits(x, 1, hits));
        limits("hits of n 32", Machine.FULL, ARGUMENT, 0, 32, (x, hits) -> spreadHits(x, 7, hits));
        for (Machine machine : new Machine[] {Machine.LEAST, Machine.USED, Machine.FULL}) {
            limits("force", machine, ARGUMENT, 1, 127, (x, force) -> {
                x.spread(0, 1, force);
                return x.step(0, 0, 0);
            });
            limits("force of no hits", machine, ARGUMENT, 1, 127, (x, force) -> {
                x.spread(0, 0, force);
                return x.step(0, 0, 0) == 0 ? force : "a force";
            });
        }
        refused("hits -1 and force 0", Machine.USED, ARGUMENT, x -> x.spread(0, -1, 0));
    }

    private static Object spreadHits(PolyDrums x, int track, int hits) {
        x.spread(track, hits, 5);
        return x.rotate(track, 0);
    }

    private static void p10Index() {
        sentence(10, "Throws `IndexOutOfBoundsException` if there is no such track");
        noSuchTrack((x, k) -> {
            x.rotate(k, 1);
            return k;
        });
    }

    private static void p10Argument() {
        sentence(10, "Throws `IllegalArgumentException` if places is not 0 to 31");
        for (Machine machine : new Machine[] {Machine.LEAST, Machine.USED, Machine.FULL}) {
            limits("places", machine, ARGUMENT, 0, 31, (x, places) -> {
                int first = x.step(0, 0, 0);
                x.rotate(0, places);
                return x.step(0, places % x.track(0, 0), 0) == first ? places : "not moved";
            });
        }
    }

    private static void p11Index() {
        sentence(11, "Throws `IndexOutOfBoundsException` if there is no such track");
        noSuchTrack((x, k) -> {
            x.stretch(k, 3);
            return x.track(k, 0) == 3 ? k : "not stretched";
        });
    }

    private static void p11Argument() {
        sentence(11, "Throws `IllegalArgumentException` if n is not 1 to 32");
        for (Machine machine : new Machine[] {Machine.LEAST, Machine.USED, Machine.FULL}) {
            limits("n", machine, ARGUMENT, 1, 32, (x, n) -> {
                x.stretch(0, n);
                return x.track(0, 0);
            });
        }
    }

    private static void p12Index() {
        sentence(12, "Throws `IndexOutOfBoundsException` if there is no such track");
        noSuchTrack((x, k) -> {
            x.tap(k, 0, 123);
            return x.step(k, 0, 0) == 123 ? k : "not tapped";
        });
    }

    private static void p12Argument() {
        sentence(12, "Throws `IllegalArgumentException` if tick is not 0 to 99999, "
                + "or force is not 1 to 127");
        noSuchTick((x, tick) -> {
            int step = x.tap(0, tick, 122);
            return x.step(0, step, 0) == 122 ? tick : "not tapped";
        });
        for (Machine machine : new Machine[] {Machine.LEAST, Machine.USED, Machine.FULL}) {
            limits("force", machine, ARGUMENT, 1, 127, (x, force) -> {
                x.tap(0, 0, force);
                return x.step(0, 0, 0);
            });
        }
        refused("tick and force", Machine.USED, ARGUMENT, x -> x.tap(0, LAST_TICK + 1, 128));
    }

    // ---- sections

    private static void p14Argument() {
        sentence(14, "Throws `IllegalArgumentException` if length is not 1 to 5000, "
                + "or set is not 0 to 255");
        for (Machine machine : new Machine[] {Machine.EMPTY, Machine.LEAST, Machine.USED}) {
            limits("length", machine, ARGUMENT, 1, 5000, (x, length) -> {
                int before = x.length();
                x.addSection(length, 1, true);
                return x.length() - before;
            });
            for (boolean isNew : new boolean[] {false, true}) {
                limits("set", machine, ARGUMENT, 0, 255, (x, set) -> {
                    int begin = x.addSection(1, set, isNew);
                    return x.length() == begin + 1 ? set : "not added";
                });
            }
        }
        refused("length and set", Machine.USED, ARGUMENT, x -> x.addSection(0, 256, false));
    }

    private static void p14State() {
        sentence(14, "Throws `IllegalStateException` if there are 12 sections");
        refused("a thirteenth, the least", Machine.FULL, STATE, x -> x.addSection(1, 0, false));
        refused("a thirteenth, the longest", Machine.FULL, STATE,
                x -> x.addSection(5000, 255, true));
        PolyDrums x = new PolyDrums();
        for (int k = 0; k < 11; k++) {
            x.addSection(1, 0, true);
        }
        due("the twelfth", 11, answer(x, y -> y.addSection(5000, 255, true)));
        due("the thirteenth", STATE, answer(x, y -> y.addSection(1, 0, true)));
        due("one is taken away", 11, x.dropSection());
        due("the twelfth again", 11, answer(x, y -> y.addSection(1, 0, true)));
        due("the thirteenth again", STATE, answer(x, y -> y.addSection(1, 0, true)));
        due("the length of 12", 12, x.length());
    }

    private static void p15State() {
        sentence(15, "Throws `IllegalStateException` if there is none");
        refused("none, and no tracks", Machine.EMPTY, STATE, x -> x.dropSection());
        due("the only one", 0, answer(Machine.LEAST.make(), x -> x.dropSection()));
        due("one of 12", 11, answer(Machine.FULL.make(), x -> x.dropSection()));
        PolyDrums x = Machine.FULL.make();
        for (int left = 11; left >= 0; left--) {
            due("left", left, answer(x, y -> y.dropSection()));
        }
        String before = told(x);
        due("none is left", STATE, answer(x, y -> y.dropSection()));
        due("none is left, again", STATE, answer(x, y -> y.dropSection()));
        due("none is left, what is told", before, told(x));
    }

    private static void p16Argument() {
        sentence(16, "Throws `IllegalArgumentException` if tick is not 0 to 99999");
        limits("tick", Machine.EMPTY, ARGUMENT, 0, LAST_TICK,
                (x, tick) -> x.sectionAt(tick) == -1 ? tick : "a section");
        noSuchTick((x, tick) -> x.sectionAt(tick) == (tick == 0 ? 0 : -1) ? tick : "another");
    }

    // ---- what sounds

    private static void p18Index() {
        sentence(18, "Throws `IndexOutOfBoundsException` if there is no such track");
        noSuchTrack((x, k) -> x.loudness(k, LAST_TICK) == 0 ? k : "loud");
    }

    private static void p18Argument() {
        sentence(18, "Throws `IllegalArgumentException` if tick is not 0 to 99999");
        noSuchTick((x, tick) -> x.loudness(0, tick) > 0 == (tick == 0) ? tick : "another");
    }

    private static void p19Argument() {
        sentence(19, "Throws `IllegalArgumentException` if tick is not 0 to 99999");
        limits("tick", Machine.EMPTY, ARGUMENT, 0, LAST_TICK,
                (x, tick) -> x.hits(tick) == 0 ? tick : "a hit");
        noSuchTick((x, tick) -> x.hits(tick) > 0 == (tick == 0) ? tick : "another");
    }

    private static void p20Argument() {
        sentence(20, "Throws `IllegalArgumentException` if tick is not 0 to 99999");
        limits("tick", Machine.EMPTY, ARGUMENT, 0, LAST_TICK,
                (x, tick) -> x.sounding(tick) == 0 ? tick : "a sound");
        noSuchTick((x, tick) -> x.sounding(tick) > 0 == (tick == 0) ? tick : "another");
    }

    private static void p21Index() {
        sentence(21, "Throws `IndexOutOfBoundsException` if there is no such track");
        noSuchTrack((x, k) -> x.next(k, LAST_TICK) == -1 ? k : "a hit");
    }

    private static void p21Argument() {
        sentence(21, "Throws `IllegalArgumentException` if tick is not 0 to 99999");
        noSuchTick((x, tick) -> x.next(0, tick) == (tick == 0 ? 0 : -1) ? tick : "another");
    }

    private static void p22Index() {
        sentence(22, "Throws `IndexOutOfBoundsException` if there is no such track");
        noSuchTrack((x, k) -> x.count(k, 5, 5) == 0 ? k : "a hit");
    }

    private static void p22Argument() {
        sentence(22, "Throws `IllegalArgumentException` if from or to is not 0 to 99999, "
                + "or to is less than from, or more than 3000 greater");
        noSuchSpan((x, from, to) -> x.count(0, from, to));
    }

    private static void p23Index() {
        sentence(23, "Throws `IndexOutOfBoundsException` if there is no such track");
        noSuchTrack((x, a) -> x.together(a, 0, 5, 5) == 0 ? a : "a hit");
        noSuchTrack((x, b) -> x.together(0, b, 5, 5) == 0 ? b : "a hit");
        noSuchTrack((x, both) -> x.together(both, both, 5, 5) == 0 ? both : "a hit");
    }

    private static void p23Argument() {
        sentence(23, "Throws `IllegalArgumentException` if from or to is not 0 to 99999, "
                + "or to is less than from, or more than 3000 greater");
        noSuchSpan((x, from, to) -> x.together(0, x.tracks() - 1, from, to));
    }

    private static void p24Index() {
        sentence(24, "Throws `IndexOutOfBoundsException` if there is no such track");
        noSuchTrack((x, k) -> x.rounds(k) >= 1 ? k : "none");
    }

    private static void p26Index() {
        sentence(26, "Throws `IndexOutOfBoundsException` if there is no such track");
        noSuchTrack((x, k) -> x.density(k) > 0.0 ? k : "none");
    }

    private static void p27Argument() {
        sentence(27, "Throws `IllegalArgumentException` if beats is not 30 to 300");
        for (Machine machine : Machine.values()) {
            limits("beats", machine, ARGUMENT, 30, 300, (x, beats) -> {
                x.setSpeed(beats);
                return x.setSpeed(120);
            });
            refusedWith("beats", machine, ARGUMENT, new int[] {0, -120}, (x, b) -> x.setSpeed(b));
        }
    }

    private static void p28Argument() {
        sentence(28, "Throws `IllegalArgumentException` if tick is not 0 to 99999");
        limits("tick", Machine.EMPTY, ARGUMENT, 0, LAST_TICK,
                (x, tick) -> x.seconds(tick) > 0.0 == (tick > 0) ? tick : "another");
        noSuchTick((x, tick) -> x.seconds(tick) > 0.0 == (tick > 0) ? tick : "another");
    }

    // ---- if several exceptions apply

    private static final String FIRST_NAMED =
            "If several exceptions apply, the one that is named first is thrown.";

    private static void firstNamedOfAddTrack() {
        sentence(2, FIRST_NAMED);
        int[][] bad = {{0, 1}, {33, 1}, {1, 0}, {1, 49}, {-1, -1}};
        for (int[] b : bad) {
            refused("a ninth of " + b[0] + ", " + b[1], Machine.FULL, ARGUMENT,
                    x -> x.addTrack(b[0], b[1]));
        }
    }

    private static void firstNamedOfSteps() {
        // Each one is no step of the machine USED: a track that is not there, or a step.
        int[][] places = {{3, 0}, {-1, 0}, {0, 4}, {0, -1}, {1, 5}, {3, 32}, {-1, -1}};
        int[][] badCells = {{-1, 1}, {128, 1}, {1, 0}, {1, 5}, {128, 5}};
        int[][] badTurns = {{0, 0}, {0, 9}, {-1, 8}, {8, 8}, {1, 1}};
        for (int[] p : places) {
            String at = "track " + p[0] + ", step " + p[1];
            sentence(3, FIRST_NAMED);
            for (int[] b : badCells) {
                refused(at, Machine.USED, INDEX, x -> x.set(p[0], p[1], b[0], b[1]));
            }
            sentence(4, FIRST_NAMED);
            for (int[] b : badTurns) {
                refused(at, Machine.USED, INDEX, x -> x.setTurn(p[0], p[1], b[0], b[1]));
            }
        }
    }

    private static void firstNamedOfTracks() {
        sentence(7, FIRST_NAMED);
        noTrackAnd(new int[] {-1, 48}, (x, k, swing) -> x.tune(k, swing, 10, 0));
        noTrackAnd(new int[] {0, 201}, (x, k, ring) -> x.tune(k, 0, ring, 0));
        noTrackAnd(new int[] {-1, 4}, (x, k, group) -> x.tune(k, 0, 10, group));
        sentence(9, FIRST_NAMED);
        noTrackAnd(new int[] {-1, 33}, (x, k, hits) -> x.spread(k, hits, 1));
        noTrackAnd(new int[] {0, 128}, (x, k, force) -> x.spread(k, 0, force));
        sentence(10, FIRST_NAMED);
        noTrackAnd(new int[] {-1, 32}, (x, k, places) -> x.rotate(k, places));
        sentence(11, FIRST_NAMED);
        noTrackAnd(new int[] {0, 33}, (x, k, n) -> x.stretch(k, n));
        sentence(12, FIRST_NAMED);
        noTrackAnd(new int[] {-1, LAST_TICK + 1}, (x, k, tick) -> x.tap(k, tick, 1));
        noTrackAnd(new int[] {0, 128}, (x, k, force) -> x.tap(k, 0, force));
    }

    /** Neither the track is there, nor is the value allowed. */
    private static void noTrackAnd(int[] values, CallWithTwo call) {
        for (int v : values) {
            for (int k : new int[] {-1, 0, 8}) {
                refused("track " + k + ", " + v, Machine.EMPTY, INDEX, x -> call.on(x, k, v));
            }
            for (int k : new int[] {-1, 3}) {
                refused("track " + k + ", " + v, Machine.USED, INDEX, x -> call.on(x, k, v));
            }
            refused("track 8, " + v, Machine.FULL, INDEX, x -> call.on(x, 8, v));
        }
    }

    private static void firstNamedOfAddSection() {
        sentence(14, FIRST_NAMED);
        int[][] bad = {{0, 1}, {5001, 1}, {1, -1}, {1, 256}, {-1, -1}};
        for (int[] b : bad) {
            refused("a thirteenth of " + b[0] + ", " + b[1], Machine.FULL, ARGUMENT,
                    x -> x.addSection(b[0], b[1], true));
        }
    }

    private static void firstNamedOfSounds() {
        int[] badTicks = {-1, LAST_TICK + 1};
        sentence(18, FIRST_NAMED);
        noTrackAnd(badTicks, (x, k, tick) -> x.loudness(k, tick));
        sentence(21, FIRST_NAMED);
        noTrackAnd(badTicks, (x, k, tick) -> x.next(k, tick));
        sentence(22, FIRST_NAMED);
        noTrackAnd(badTicks, (x, k, tick) -> x.count(k, tick, tick));
        noTrackAnd(new int[] {1, 3001}, (x, k, far) -> x.count(k, far, far == 1 ? 0 : 6002));
        sentence(23, FIRST_NAMED);
        noTrackAnd(badTicks, (x, a, tick) -> x.together(a, 0, tick, tick));
        noTrackAnd(badTicks, (x, b, tick) -> x.together(0, b, tick, tick));
        noTrackAnd(new int[] {1, 3001}, (x, b, far) -> x.together(0, b, far, far == 1 ? 0 : 6002));
    }
}
