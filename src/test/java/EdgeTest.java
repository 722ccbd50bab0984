import java.math.BigInteger;
import java.util.ArrayList;
import java.util.List;

/**
 * Tests each sentence of the document that names an edge of what is answered: one method a
 * sentence, its words ahead of the checks. RefusalTest tests the sentences that refuse a call.
 *
 * No machine is used for more than 512 calls.
 */
public final class EdgeTest {
    private static final int LAST_TICK = 99999;

    private static String sentence = "";
    private static int wrong = 0;
    private static int checks = 0;

    public static void main(String[] args) {
        termsOfTracks();
        termsOfSteps();
        termsOfTheSong();
        termsOfHitsAndSound();
        promisesOfTracks();
        promisesOfSections();
        promisesOfSound();
        System.out.println("EdgeTest: " + checks + " checks, " + wrong + " wrong");
        if (wrong != 0) {
            System.exit(1);
        }
    }

    private static void termsOfTracks() {
        ticks();
        atMostEightTracks();
        stepsOfATrack();
        ticksOfAStep();
        ticksOfARound();
        swing();
        delayOfAStep();
        ring();
        group();
        mutedSoloAccentAtFirst();
    }

    private static void termsOfSteps() {
        force();
        strokes();
        turnOfAStep();
        strokePlaces();
        onlyTheStrokesOfItsOwnStep();
    }

    private static void termsOfTheSong() {
        atMostTwelveSections();
        lengthOfASection();
        setOfTracks();
        withinASection();
        localTime();
        behindTheLastSection();
        noSections();
    }

    private static void termsOfHitsAndSound() {
        leftOut();
        accentsMakeNoHits();
        quarterOfTheAccents();
        accentsThatStrike();
        mostLoudness();
        asManyTicksAsItsRing();
        untilItsNextHit();
        untilAHitOfItsGroup();
        groupAtTheSameTick();
        changesNothing();
        call512();
    }

    private static void promisesOfTracks() {
        p1NewObject();
        p2Number();
        p3ForceBefore();
        p4TurnBefore();
        p5WhatOfAStep();
        p6WhatOfATrack();
        p7SwingBefore();
        p8WasSoBefore();
        p9SpreadForces();
        p9LastHit();
        p9AsAtFirst();
        p10BeyondTheLastOne();
        p10StepsWithForce();
        p11Fewer();
        p11More();
        p12Distance();
        p12DistanceOfStep0();
        p12SmallestNumber();
        p12WrapOfTicks();
        p13Tracks();
    }

    private static void promisesOfSections() {
        p14Begin();
        p15Left();
        p16NumberOfTheSection();
        p16None();
        p17TicksOfAll();
    }

    private static void promisesOfSound() {
        p18NoHit();
        p19Set();
        p20Set();
        p21FirstTick();
        p21Farthest();
        p21LastTick();
        p22FromAndTo();
        p23Both();
        p24Rounds();
        p25Period();
        p25WithoutTracks();
        p25Greater();
        p26Density();
        p26AscendingOrder();
        p27BeatsBefore();
        p28Seconds();
        p29WrapsAround();
        p29EmptyAndFull();
    }

    // ---- how it is checked

    private static void sentence(String words) {
        sentence = words;
    }

    private static void due(String what, Object want, Object got) {
        checks++;
        if (!want.equals(got)) {
            wrong++;
            System.out.println("\"" + sentence + "\": " + what + ": answered " + got
                    + ", due is " + want);
        }
    }

    private static PolyDrums withTracks(int... sizes) {
        PolyDrums x = new PolyDrums();
        for (int i = 0; i + 1 < sizes.length; i += 2) {
            x.addTrack(sizes[i], sizes[i + 1]);
        }
        return x;
    }

    /** Tracks of one step that hit every so many ticks. */
    private static PolyDrums hittingEvery(int... ticks) {
        PolyDrums x = new PolyDrums();
        for (int k = 0; k < ticks.length; k++) {
            x.addTrack(1, ticks[k]);
            x.set(k, 0, 100, 1);
        }
        return x;
    }

    private static PolyDrums eight(int n, int d) {
        return withTracks(n, d, n, d, n, d, n, d, n, d, n, d, n, d, n, d);
    }

    private static String forces(PolyDrums x, int track) {
        StringBuilder text = new StringBuilder();
        int n = x.track(track, 0);
        for (int s = 0; s < n; s++) {
            text.append(s == 0 ? "" : " ").append(x.step(track, s, 0));
        }
        return text.toString();
    }

    private static String wholeStep(PolyDrums x, int track, int step) {
        return x.step(track, step, 0) + " " + x.step(track, step, 1) + " "
                + x.step(track, step, 2) + " " + x.step(track, step, 3);
    }

    private static String hitTicks(PolyDrums x, int track, int from, int to) {
        StringBuilder text = new StringBuilder();
        for (int t = x.next(track, from); t >= 0 && t < to; t = x.next(track, t + 1)) {
            text.append(text.length() == 0 ? "" : " ").append(t);
        }
        return text.toString();
    }

    private static String soundingFrom(PolyDrums x, int from, int to) {
        StringBuilder text = new StringBuilder();
        for (int t = from; t < to; t++) {
            text.append(t == from ? "" : " ").append(x.sounding(t));
        }
        return text.toString();
    }

    // ---- Terms: tracks

    private static void ticks() {
        sentence("Time is counted in ticks, 0 to 99999.");
        PolyDrums x = hittingEvery(1);
        for (int tick : new int[] {0, LAST_TICK}) {
            due("hits " + tick, 1, x.hits(tick));
            due("loudness " + tick, 100, x.loudness(0, tick));
            due("sounding " + tick, 1, x.sounding(tick));
            due("next " + tick, tick, x.next(0, tick));
            due("sectionAt " + tick, -1, x.sectionAt(tick));
            due("count " + tick, 0, x.count(0, tick, tick));
            due("together " + tick, 0, x.together(0, 0, tick, tick));
            due("tap " + tick, 0, x.tap(0, tick, 100));
        }
    }

    private static void atMostEightTracks() {
        sentence("There are at most 8, numbered from 0 in the order of their creation.");
        PolyDrums x = new PolyDrums();
        for (int k = 0; k < 8; k++) {
            x.addTrack(k + 1, 48 - k);
        }
        for (int k = 0; k < 8; k++) {
            due("steps of " + k, k + 1, x.track(k, 0));
            due("ticks of " + k, 48 - k, x.track(k, 1));
        }
    }

    private static void stepsOfATrack() {
        sentence("A track has n steps, 1 to 32, numbered from 0");
        PolyDrums x = withTracks(1, 3, 32, 3);
        x.set(0, 0, 5, 1);
        due("one step", "0 3 6", hitTicks(x, 0, 0, 9));
        x.set(1, 31, 5, 1);
        due("the last of 32 steps", "93 189", hitTicks(x, 1, 0, 270));
        x.set(1, 0, 5, 1);
        due("the first of 32 steps", "0 93 96 189 192", hitTicks(x, 1, 0, 270));
    }

    private static void ticksOfAStep() {
        sentence("each of them takes d ticks, 1 to 48");
        PolyDrums x = withTracks(4, 1, 4, 48);
        x.spread(0, 4, 5);
        due("steps of 1 tick", "0 1 2 3 4 5", hitTicks(x, 0, 0, 6));
        x.spread(1, 4, 5);
        due("steps of 48 ticks", "0 48 96 144 192", hitTicks(x, 1, 0, 240));
    }

    private static void ticksOfARound() {
        sentence("a round are n * d ticks");
        PolyDrums x = withTracks(1, 1, 32, 48);
        x.set(0, 0, 5, 1);
        due("the shortest", "0 1 2", hitTicks(x, 0, 0, 3));
        x.set(1, 0, 5, 1);
        due("the longest", 1536, x.next(1, 1));
        due("its last tick", 1, x.hits(1535));
        due("the first one of the next round", 3, x.hits(1536));
        // 99840 is the begin of the last round, 65 * 1536: 99999 lies 15 behind step 3 of it.
        x.spread(1, 0, 1);
        x.set(1, 3, 5, 1);
        x.tune(1, 15, 10, 0);
        due("the last tick of all", 3, x.hits(LAST_TICK));
        due("the one ahead of it", 1, x.hits(LAST_TICK - 1));
    }

    private static void swing() {
        sentence("It has a swing, 0 to d - 1 (0, at first)");
        PolyDrums x = withTracks(2, 10, 2, 1, 32, 48);
        x.set(0, 1, 5, 1);
        due("at first", 0, x.track(0, 2));
        due("at first, where it strikes", "10 30", hitTicks(x, 0, 0, 40));
        x.tune(0, 9, 10, 0);
        due("d - 1", "19 39", hitTicks(x, 0, 0, 40));
        x.tune(1, 0, 10, 0);
        x.set(1, 1, 5, 1);
        due("0, the only one of d 1", "1 3 5", hitTicks(x, 1, 0, 6));
        x.set(2, 31, 5, 1);
        x.tune(2, 47, 10, 0);
        due("to the last tick of a round", "1535", hitTicks(x, 2, 0, 3000));
    }

    private static void delayOfAStep() {
        sentence("the delay of a step is the swing, if its number is odd, otherwise 0");
        PolyDrums x = withTracks(32, 2, 1, 7);
        x.tune(0, 1, 10, 0);
        x.tune(1, 6, 10, 0);
        for (int s = 0; s < 32; s++) {
            due("step " + s, s % 2, x.step(0, s, 4));
        }
        due("the only step", 0, x.step(1, 0, 4));
        x.spread(0, 32, 5);
        due("where they strike", "0 3 4 7 8 11", hitTicks(x, 0, 0, 12));
        due("the last ones of a round", "60 63 64 67", hitTicks(x, 0, 60, 68));
        // Step 0 of the next round is not delayed, though it follows an even step.
        x.stretch(0, 3);
        due("an odd number of steps", "0 3 4 6 9 10", hitTicks(x, 0, 0, 12));
    }

    private static void ring() {
        sentence("It has a ring, 1 to 200 ticks (10, at first)");
        PolyDrums x = withTracks(32, 48);
        x.set(0, 1, 5, 1);
        due("at first", 10, x.track(0, 3));
        due("10: the last tick", 1, x.sounding(57));
        due("10: behind it", 0, x.sounding(58));
        x.tune(0, 0, 1, 0);
        due("1: the last tick", 1, x.sounding(48));
        due("1: behind it", 0, x.sounding(49));
        x.tune(0, 0, 200, 0);
        due("200: the last tick", 1, x.sounding(247));
        due("200: behind it", 0, x.sounding(248));
    }

    private static void group() {
        sentence("a group, 0 to 3 (0, at first: none)");
        PolyDrums x = eight(2, 5);
        for (int k = 0; k < 8; k++) {
            due("at first, track " + k, 0, x.track(k, 4));
            x.set(k, k % 2, 5, 1);
        }
        due("none of them chokes", 255, x.sounding(5));
        for (int k = 0; k < 8; k++) {
            x.tune(k, 0, 10, k / 2);
        }
        due("ahead of the chokes", 85, x.sounding(4));
        due("each group for itself, 0 not", 3 + 8 + 32 + 128, x.sounding(5));
    }

    private static void mutedSoloAccentAtFirst() {
        sentence("It can be muted, it can be solo, it can be an accent.");
        PolyDrums x = hittingEvery(1, 1);
        for (int what = 5; what <= 7; what++) {
            due("at first " + what, 0, x.track(0, what));
        }
        x.turn(0, 0, true);
        due("muted", 2, x.hits(0));
        x.turn(0, 0, false);
        x.turn(0, 1, true);
        due("solo", 1, x.hits(0));
        x.turn(0, 1, false);
        x.turn(0, 2, true);
        due("an accent", 2, x.hits(0));
        x.turn(0, 2, false);
        due("nothing any more", 3, x.hits(0));
    }

    // ---- Terms: steps

    private static void force() {
        sentence("A step has a force, 0 to 127 (0, at first: nothing)");
        PolyDrums x = withTracks(1, 1);
        due("at first", 0, x.step(0, 0, 0));
        due("at first, no hit", 0, x.hits(0));
        x.set(0, 0, 1, 1);
        due("1", 1, x.loudness(0, 0));
        x.set(0, 0, 127, 1);
        due("127", 127, x.loudness(0, 0));
        x.set(0, 0, 0, 4);
        due("0", 0, x.loudness(0, 0));
        due("0, no hit", 0, x.hits(0));
        due("0, no sound", 0, x.sounding(0));
    }

    private static void strokes() {
        sentence("a number of strokes r, 1 to 4 (1, at first)");
        PolyDrums x = withTracks(2, 48);
        due("at first", 1, x.step(0, 0, 1));
        x.tap(0, 0, 5);
        due("1, at first", "0 96", hitTicks(x, 0, 0, 192));
        x.set(0, 0, 5, 4);
        due("4", "0 12 24 36 96", hitTicks(x, 0, 0, 100));
        x.set(0, 0, 5, 1);
        due("1", "0 96", hitTicks(x, 0, 0, 192));
    }

    private static void turnOfAStep() {
        sentence("a turn a of b, 0 <= a < b <= 8 (0 of 1, at first)");
        PolyDrums x = withTracks(1, 1);
        due("at first", "0 1 0 1", wholeStep(x, 0, 0));
        x.set(0, 0, 5, 1);
        due("0 of 1", "0 1 2 3", hitTicks(x, 0, 0, 4));
        for (int b = 1; b <= 8; b++) {
            x.setTurn(0, 0, 0, b);
            due("0 of " + b, "0 " + b + " " + 2 * b, hitTicks(x, 0, 0, 2 * b + 1));
            x.setTurn(0, 0, b - 1, b);
            due("the last of " + b, b - 1 + " " + (2 * b - 1), hitTicks(x, 0, 0, 3 * b - 1));
        }
    }

    private static void strokePlaces() {
        sentence("What is said to be divided is cut towards 0.");
        String[] want = {
            "1 2: 0 2", "1 3: 0 3", "1 4: 0 4",
            "2 2: 0 1 2 3", "2 3: 0 1 3 4", "2 47: 0 23 47 70",
            "3 2: 0 1 2 3", "3 3: 0 1 2 3 4 5", "3 7: 0 2 4 7 9 11", "3 8: 0 2 5 8 10 13",
            "4 1: 0 1", "4 2: 0 1 2 3", "4 3: 0 1 2 3 4 5", "4 7: 0 1 3 5 7 8 10 12",
            "4 47: 0 11 23 35 47 58 70 82"};
        for (String line : want) {
            String[] parts = line.split(": ");
            int r = Integer.parseInt(parts[0].split(" ")[0]);
            int d = Integer.parseInt(parts[0].split(" ")[1]);
            PolyDrums x = withTracks(1, d);
            x.set(0, 0, 5, r);
            due(r + " strokes in " + d + " ticks", parts[1], hitTicks(x, 0, 0, 2 * d));
        }
        PolyDrums delayed = withTracks(2, 10);
        delayed.set(0, 1, 5, 4);
        delayed.tune(0, 3, 10, 0);
        due("4 strokes in 10 ticks less 3", "13 14 16 18", hitTicks(delayed, 0, 0, 20));
        delayed.tune(0, 8, 10, 0);
        due("4 strokes in 10 ticks less 8", "18 19", hitTicks(delayed, 0, 0, 20));
        delayed.tune(0, 9, 10, 0);
        due("4 strokes in 10 ticks less 9", "19", hitTicks(delayed, 0, 0, 20));
    }

    private static void onlyTheStrokesOfItsOwnStep() {
        sentence("p - s * d is q + i * (d - q) / r for some i from 0 to r - 1.");
        PolyDrums x = withTracks(3, 8);
        x.set(0, 1, 5, 2);
        // i = r would be the first tick of step 2, i = -1 one of step 0.
        due("0 to r - 1", "8 12 32 36", hitTicks(x, 0, 0, 48));
        x.tune(0, 4, 10, 0);
        due("0 to r - 1, delayed", "12 14 36 38", hitTicks(x, 0, 0, 48));
    }

    // ---- Terms: the song

    private static void atMostTwelveSections() {
        sentence("The song has at most 12 sections, one behind the other from tick 0 on");
        PolyDrums x = new PolyDrums();
        for (int k = 0; k < 12; k++) {
            due("begin of " + k, k * (k + 1) / 2, x.addSection(k + 1, 0, true));
        }
        for (int k = 0; k < 12; k++) {
            int begin = k * (k + 1) / 2;
            due("at the begin of " + k, k, x.sectionAt(begin));
            due("at the last tick of " + k, k, x.sectionAt(begin + k));
        }
        due("behind them", -1, x.sectionAt(78));
    }

    private static void lengthOfASection() {
        sentence("a section has a length, 1 to 5000 ticks");
        PolyDrums x = hittingEvery(1);
        x.addSection(1, 0, true);
        x.addSection(5000, 1, true);
        x.addSection(1, 0, true);
        x.addSection(1, 1, true);
        due("one tick", 0, x.hits(0));
        due("the first of 5000 ticks", 1, x.hits(1));
        due("the last of 5000 ticks", 1, x.hits(5000));
        due("one tick behind them", 0, x.hits(5001));
        due("the last tick", 1, x.hits(5002));
        due("behind it", 0, x.hits(5003));
    }

    private static void setOfTracks() {
        sentence("a set of tracks (as the sum of the powers 2^k of their numbers k)");
        PolyDrums x = hittingEvery(1, 1, 1, 1, 1, 1, 1, 1);
        int[] sets = {0, 1, 2, 4, 8, 16, 32, 64, 128, 255, 127, 170};
        for (int set : sets) {
            x.addSection(1, set, false);
        }
        for (int t = 0; t < 12; t++) {
            due("set " + sets[t], sets[t], x.hits(t));
        }
        PolyDrums few = hittingEvery(1);
        few.addSection(2, 255, false);
        few.addSection(2, 2, false);
        due("tracks that are not there", 1, few.hits(0));
        due("only a track that is not there", 0, few.hits(2));
        few.addTrack(1, 1);
        few.set(1, 0, 5, 1);
        due("the track comes later", 3, few.hits(0));
        due("the track comes later, alone", 2, few.hits(2));
    }

    private static void withinASection() {
        sentence("At a tick within a section, the tracks of its set play");
        PolyDrums x = hittingEvery(1, 1);
        x.addSection(3, 1, true);
        x.addSection(2, 2, false);
        x.addSection(1, 0, true);
        x.addSection(1, 3, true);
        int[] want = {1, 1, 1, 2, 2, 0, 3, 0};
        for (int t = 0; t < want.length; t++) {
            due("tick " + t, want[t], x.hits(t));
        }
    }

    private static void localTime() {
        sentence("their local time is the tick less the begin of the section, "
                + "if it begins anew, otherwise the tick");
        PolyDrums x = hittingEvery(10);
        x.addSection(15, 1, false);
        x.addSection(16, 1, true);
        x.addSection(15, 1, false);
        x.addSection(1, 1, true);
        x.addSection(7, 1, true);
        due("where it strikes", "0 10 15 25 40 46 47", hitTicks(x, 0, 0, 99));
        x.setTurn(0, 0, 1, 2);
        // The rounds are counted by local time too: round 1 begins at 10, and at 15 + 10.
        due("in every other round", "10 25", hitTicks(x, 0, 0, 40));
        x.setTurn(0, 0, 0, 2);
        due("in the other ones", "0 15 40 46 47", hitTicks(x, 0, 0, 99));
        PolyDrums first = hittingEvery(10);
        first.addSection(11, 1, true);
        due("a first section that begins anew", "0 10", hitTicks(first, 0, 0, 99));
    }

    private static void behindTheLastSection() {
        sentence("Behind the last section nothing plays.");
        PolyDrums x = hittingEvery(1, 1, 1);
        x.addSection(7, 7, false);
        due("at its last tick", 7, x.hits(6));
        due("behind it", 0, x.hits(7));
        due("behind it, no loudness", 0, x.loudness(0, 7));
        due("behind it, next", -1, x.next(0, 7));
        due("at the last tick of all", 0, x.hits(LAST_TICK));
        due("hits up to there", 7, x.count(0, 0, 3000));
        PolyDrums longest = hittingEvery(1);
        for (int k = 0; k < 12; k++) {
            longest.addSection(5000, 1, k % 2 == 0);
        }
        due("at the last tick of the longest song", 1, longest.hits(59999));
        due("behind the longest song", 0, longest.hits(60000));
        due("hits at its end", 1500, longest.count(0, 58500, 61500));
    }

    private static void noSections() {
        sentence("If there are no sections, all tracks play, and the local time is the tick.");
        PolyDrums x = hittingEvery(1, 10, 7);
        due("at 0", 7, x.hits(0));
        due("at 70", 7, x.hits(70));
        due("at 71", 1, x.hits(71));
        due("at the last tick", 1, x.hits(LAST_TICK));
        due("by the tick", "99990", hitTicks(x, 1, 99981, LAST_TICK));
        x.addSection(1, 0, true);
        due("with a section", 0, x.hits(70));
        x.dropSection();
        due("without it again", 7, x.hits(70));
    }

    // ---- Terms: hits and sound

    private static void leftOut() {
        sentence("neither muted, nor left out since another track is solo and it is not");
        PolyDrums x = hittingEvery(1, 1, 1, 1, 1, 1, 1, 1);
        due("none is solo", 255, x.hits(0));
        x.turn(7, 1, true);
        due("the last one is solo", 128, x.hits(0));
        x.turn(0, 1, true);
        due("the first one too", 129, x.hits(0));
        x.turn(0, 0, true);
        due("the first one is muted", 128, x.hits(0));
        for (int k = 1; k < 7; k++) {
            x.turn(k, 1, true);
        }
        due("all are solo", 254, x.hits(0));
        x.turn(0, 0, false);
        due("all are solo, none muted", 255, x.hits(0));
        for (int k = 0; k < 8; k++) {
            x.turn(k, 0, true);
        }
        due("all are muted", 0, x.hits(0));
        for (int k = 0; k < 8; k++) {
            x.turn(k, 0, k == 3);
            x.turn(k, 1, k == 3);
        }
        due("the only one that is solo is muted", 0, x.hits(0));
        PolyDrums one = hittingEvery(1);
        one.turn(0, 1, true);
        due("the only one is solo", 1, one.hits(0));
    }

    private static void accentsMakeNoHits() {
        sentence("A track that is an accent makes no hits.");
        PolyDrums x = hittingEvery(1, 1, 1, 1, 1, 1, 1, 1);
        for (int k = 0; k < 7; k++) {
            x.turn(k, 2, true);
        }
        due("all but one: hits", 128, x.hits(0));
        due("all but one: sounding", 128, x.sounding(0));
        due("all but one: an accent", 0, x.loudness(6, 0));
        x.turn(7, 2, true);
        due("all: hits", 0, x.hits(0));
        due("all: sounding", 0, x.sounding(0));
        due("all: loudness", 0, x.loudness(7, 0));
        due("all: next", -1, x.next(7, 0));
        due("all: count", 0, x.count(7, 0, 3000));
        due("all: together", 0, x.together(0, 7, 0, 3000));
    }

    private static void quarterOfTheAccents() {
        sentence("a quarter of the forces with which accents strike at this tick "
                + "(all together, then divided by 4)");
        PolyDrums x = hittingEvery(1, 1, 1, 1, 1);
        x.set(0, 0, 50, 1);
        for (int k = 1; k <= 4; k++) {
            x.set(k, 0, 0, 1);
            x.turn(k, 2, true);
        }
        due("accents without force", 50, x.loudness(0, 0));
        int[][] want = {{1, 50}, {3, 50}, {4, 51}, {7, 51}, {8, 52}, {127, 81}};
        for (int[] w : want) {
            x.set(1, 0, w[0], 1);
            due("one accent of " + w[0], w[1], x.loudness(0, 0));
        }
        for (int k = 1; k <= 4; k++) {
            x.set(k, 0, 1, 1);
            due(k + " accents of 1", k == 4 ? 51 : 50, accentsUpTo(x, k));
        }
        x.turn(2, 0, true);
        due("one of four is muted", 50, x.loudness(0, 0));
    }

    private static int accentsUpTo(PolyDrums x, int last) {
        for (int k = last + 1; k <= 4; k++) {
            x.set(k, 0, 0, 1);
        }
        return x.loudness(0, 0);
    }

    private static void accentsThatStrike() {
        sentence("the forces with which accents strike at this tick");
        PolyDrums x = hittingEvery(1, 1, 1, 1, 1, 1, 1, 1);
        for (int k : new int[] {0, 1, 7}) {
            x.set(k, 0, 4, 1);
            x.turn(k, 2, true);
        }
        due("the first track and the last one are accents", 103, x.loudness(2, 0));
        x.turn(1, 0, true);
        due("one is muted", 102, x.loudness(2, 0));
        x.setTurn(7, 0, 1, 2);
        due("another one is not at its turn", 101, x.loudness(2, 0));
        due("it is at its turn", 102, x.loudness(2, 1));
        x.addSection(9, 255 - 128, false);
        due("it does not play", 101, x.loudness(2, 1));
        x.dropSection();
        x.turn(2, 1, true);
        due("none of them is solo, but the track is", 100, x.loudness(2, 1));
        x.turn(7, 1, true);
        due("one of them is solo too", 101, x.loudness(2, 1));
        PolyDrums slow = hittingEvery(1, 2, 1);
        slow.turn(1, 2, true);
        slow.set(2, 0, 4, 1);
        slow.turn(2, 2, true);
        due("both strike", 126, slow.loudness(0, 0));
        due("the step of one lasts on, but it strikes no more", 101, slow.loudness(0, 1));
    }

    private static void mostLoudness() {
        sentence("but at most 127");
        PolyDrums x = hittingEvery(1, 1, 1, 1, 1, 1, 1, 1);
        for (int k = 1; k < 8; k++) {
            x.set(k, 0, 0, 1);
            x.turn(k, 2, true);
        }
        int[][] want = {{127, 0, 127}, {127, 3, 127}, {127, 4, 127}, {126, 3, 126}, {126, 4, 127},
            {126, 7, 127}, {126, 8, 127}, {96, 123, 126}, {96, 124, 127}, {96, 127, 127},
            {97, 124, 127}};
        for (int[] w : want) {
            x.set(0, 0, w[0], 1);
            x.set(1, 0, w[1], 1);
            due(w[0] + " and a quarter of " + w[1], w[2], x.loudness(0, 0));
        }
        for (int k = 1; k < 8; k++) {
            x.set(k, 0, 127, 1);
        }
        x.set(0, 0, 1, 1);
        due("1 and seven accents", 127, x.loudness(0, 0));
        x.set(0, 0, 0, 1);
        due("no hit and seven accents", 0, x.loudness(0, 0));
    }

    private static void asManyTicksAsItsRing() {
        sentence("A hit of a track sounds from its tick on, as many ticks as its ring");
        PolyDrums x = withTracks(32, 48);
        x.set(0, 1, 5, 1);
        int[] rings = {1, 2, 199, 200};
        for (int ring : rings) {
            x.tune(0, 0, ring, 0);
            due("ring " + ring + ", ahead of it", 0, x.sounding(47));
            due("ring " + ring + ", at its tick", 1, x.sounding(48));
            due("ring " + ring + ", the last tick", 1, x.sounding(47 + ring));
            due("ring " + ring + ", behind it", 0, x.sounding(48 + ring));
        }
        PolyDrums first = withTracks(32, 48);
        first.set(0, 0, 5, 1);
        first.tune(0, 0, 200, 0);
        due("from tick 0 on", 1, first.sounding(0));
        due("from tick 0 on, the last tick", 1, first.sounding(199));
        due("from tick 0 on, behind it", 0, first.sounding(200));
        // 98304 is the begin of a round: ticks have an end, not the ring.
        due("of a late round, the last tick", 1, first.sounding(98503));
        due("of a late round, behind it", 0, first.sounding(98504));
    }

    private static void untilItsNextHit() {
        sentence("or until the track makes its next hit");
        PolyDrums x = withTracks(4, 5, 4, 5);
        x.set(0, 0, 5, 1);
        x.set(0, 1, 5, 1);
        x.tune(0, 0, 5, 0);
        due("the next one follows at the end of the ring", "1 1 1 1 1 1", soundingFrom(x, 4, 10));
        due("behind the last one", "0 0", soundingFrom(x, 10, 12));
        x.tune(0, 0, 4, 0);
        due("a gap ahead of the next one", "1 0 1", soundingFrom(x, 3, 6));
        // Its next hit does not sound itself, and the first one is over all the same.
        x.tune(0, 0, 50, 1);
        x.tune(1, 0, 1, 1);
        x.set(1, 1, 5, 1);
        due("the next one is choked", "1 2 0 0", soundingFrom(x, 4, 8));
    }

    private static void untilAHitOfItsGroup() {
        sentence("or until another track of the same group (other than 0) makes a hit");
        for (int smaller = 0; smaller < 2; smaller++) {
            int greater = 1 - smaller;
            PolyDrums x = withTracks(8, 5, 8, 5);
            x.set(smaller, 0, 5, 1);
            x.set(greater, 1, 5, 1);
            x.tune(smaller, 0, 12, 2);
            x.tune(greater, 0, 3, 2);
            int one = 1 << smaller;
            int other = 1 << greater;
            due("the tick ahead of it, its ticks, and behind them",
                    one + " " + one + " " + other + " " + other + " " + other + " 0 0",
                    soundingFrom(x, 3, 10));
            x.tune(greater, 0, 3, 3);
            due("of another group",
                    one + " " + one + " 3 3 3 " + one + " " + one, soundingFrom(x, 3, 10));
            x.tune(smaller, 0, 12, 0);
            x.tune(greater, 0, 3, 0);
            due("of no group",
                    one + " " + one + " 3 3 3 " + one + " " + one, soundingFrom(x, 3, 10));
        }
    }

    private static void groupAtTheSameTick() {
        sentence("if two tracks of a group make hits at the same tick, "
                + "that with the smaller number does not sound");
        PolyDrums x = eight(4, 40);
        for (int k = 0; k < 8; k++) {
            x.set(k, 0, 5, 1);
            x.tune(k, 0, 10, 3);
        }
        due("all eight of one group", 128, x.sounding(0));
        due("all eight, the last tick", 128, x.sounding(9));
        due("all eight, behind it", 0, x.sounding(10));
        x.tune(7, 0, 1, 3);
        due("the others are not back behind it", "128 0", soundingFrom(x, 0, 2));
        x.turn(7, 0, true);
        due("the greatest one is muted", 64, x.sounding(0));
        x.tune(0, 0, 10, 1);
        x.tune(1, 0, 10, 1);
        due("two of another group", 64 + 2, x.sounding(0));
        for (int k = 0; k < 8; k++) {
            x.tune(k, 0, 10, 0);
        }
        due("without groups", 127, x.sounding(0));
    }

    private static void changesNothing() {
        sentence("A method that throws an exception changes nothing.");
        PolyDrums x = withTracks(4, 10);
        x.set(0, 0, 9, 2);
        x.setTurn(0, 0, 1, 2);
        x.tune(0, 3, 20, 1);
        Runnable[] calls = {() -> x.addTrack(0, 1), () -> x.addTrack(1, 49),
            () -> x.set(0, 0, 8, 5), () -> x.set(0, 0, 128, 3), () -> x.setTurn(0, 0, 3, 3),
            () -> x.setTurn(0, 0, 0, 9), () -> x.tune(0, 10, 30, 2), () -> x.tune(0, 4, 201, 2),
            () -> x.tune(0, 4, 30, 4), () -> x.turn(0, 3, true), () -> x.spread(0, 5, 1),
            () -> x.spread(0, 2, 128), () -> x.rotate(0, 32), () -> x.stretch(0, 33),
            () -> x.tap(0, LAST_TICK + 1, 5), () -> x.tap(0, 0, 128),
            () -> x.addSection(5001, 1, true), () -> x.addSection(1, 256, true),
            () -> x.dropSection(), () -> x.setSpeed(301)};
        long before = x.digest();
        for (int i = 0; i < calls.length; i++) {
            boolean isThrown = false;
            try {
                calls[i].run();
            } catch (RuntimeException e) {
                isThrown = true;
            }
            due("call " + i + " throws", true, isThrown);
            due("call " + i + " changes nothing", before, x.digest());
        }
        due("the step", "9 2 1 2", wholeStep(x, 0, 0));
        due("the tracks", 1, x.tracks());
        due("the ticks of all sections", 0, x.length());
        due("the speed", 120, x.setSpeed(120));
    }

    private static void call512() {
        sentence("An object is used for at most 512 calls after it has been made");
        PolyDrums x = new PolyDrums();
        x.addTrack(1, 1);
        x.set(0, 0, 5, 1);
        for (int i = 0; i < 254; i++) {
            due("call " + (3 + 2 * i), 0, x.addSection(5000, 1, true));
            due("call " + (4 + 2 * i), 0, x.dropSection());
        }
        due("call 511", 1, x.hits(LAST_TICK));
        due("call 512", LAST_TICK, x.next(0, LAST_TICK));
    }

    // ---- Promises: tracks and steps

    private static void p1NewObject() {
        sentence("Creates a machine without tracks and sections, with 120 beats a minute.");
        PolyDrums x = new PolyDrums();
        due("tracks", 0, x.tracks());
        due("length", 0, x.length());
        due("the section at 0", -1, x.sectionAt(0));
        due("the section at the last tick", -1, x.sectionAt(LAST_TICK));
        due("hits", 0, x.hits(LAST_TICK));
        due("sounding", 0, x.sounding(LAST_TICK));
        due("a beat", 0.5, x.seconds(24));
        due("the speed", 120, x.setSpeed(30));
    }

    private static void p2Number() {
        sentence("Returns its number.");
        PolyDrums x = new PolyDrums();
        for (int k = 0; k < 8; k++) {
            due("track " + k, k, x.addTrack(k % 2 == 0 ? 1 : 32, k % 3 == 0 ? 48 : 1));
        }
    }

    private static void p3ForceBefore() {
        sentence("Returns its force before.");
        PolyDrums x = withTracks(1, 1, 32, 48);
        for (int step = 0; step < 32; step += 31) {
            due("at first", 0, x.set(1, step, 127, 4));
            due("the most", 127, x.set(1, step, 0, 1));
            due("nothing", 0, x.set(1, step, 1, 2));
            due("the least", "1 2 0 1", wholeStep(x, 1, step));
        }
        due("the only step of another track", 0, x.set(0, 0, 1, 1));
    }

    private static void p4TurnBefore() {
        sentence("Returns b before.");
        PolyDrums x = withTracks(1, 1, 32, 48);
        for (int step = 0; step < 32; step += 31) {
            due("at first", 1, x.setTurn(1, step, 7, 8));
            due("7 of 8", "0 1 7 8", wholeStep(x, 1, step));
            due("8", 8, x.setTurn(1, step, 0, 1));
            due("0 of 1", "0 1 0 1", wholeStep(x, 1, step));
        }
        due("the only step of another track", 1, x.setTurn(0, 0, 0, 8));
    }

    private static void p5WhatOfAStep() {
        sentence("0 its force, 1 its number of strokes, 2 a, 3 b, 4 its delay");
        PolyDrums x = withTracks(2, 48);
        x.set(0, 1, 127, 4);
        x.setTurn(0, 1, 7, 8);
        x.tune(0, 47, 1, 0);
        int[] most = {127, 4, 7, 8, 47};
        int[] atFirst = {0, 1, 0, 1, 0};
        for (int what = 0; what <= 4; what++) {
            due("the most of " + what, most[what], x.step(0, 1, what));
            due("at first " + what, atFirst[what], x.step(0, 0, what));
        }
    }

    private static void p6WhatOfATrack() {
        sentence("0 the number of its steps, 1 the ticks of a step, 2 its swing, 3 its ring, "
                + "4 its group, 5 1 if it is muted, else 0, 6 1 if it is solo, else 0, "
                + "7 1 if it is an accent, else 0");
        PolyDrums x = withTracks(32, 48, 1, 1);
        x.tune(0, 47, 200, 3);
        x.tune(1, 0, 1, 0);
        for (int what = 0; what <= 2; what++) {
            x.turn(0, what, true);
        }
        int[] most = {32, 48, 47, 200, 3, 1, 1, 1};
        int[] least = {1, 1, 0, 1, 0, 0, 0, 0};
        for (int what = 0; what <= 7; what++) {
            due("the most of " + what, most[what], x.track(0, what));
            due("the least of " + what, least[what], x.track(1, what));
        }
    }

    private static void p7SwingBefore() {
        sentence("Returns its swing before.");
        PolyDrums x = withTracks(1, 48, 1, 1);
        due("at first", 0, x.tune(0, 47, 200, 3));
        due("the most", 47, x.tune(0, 0, 1, 0));
        due("the least", 0, x.tune(0, 0, 1, 0));
        due("of d 1", 0, x.tune(1, 0, 200, 3));
    }

    private static void p8WasSoBefore() {
        sentence("Returns whether it was so before.");
        PolyDrums x = eight(1, 1);
        for (int k = 0; k < 8; k += 7) {
            for (int what = 0; what <= 2; what++) {
                due("off at first", false, x.turn(k, what, false));
                due("off", false, x.turn(k, what, true));
                due("on", true, x.turn(k, what, true));
                due("on still", true, x.turn(k, what, false));
                due("off again", 0, x.track(k, 5 + what));
            }
        }
    }

    private static void p9SpreadForces() {
        sentence("step s gets the force if s * hits % n < hits, otherwise 0");
        PolyDrums x = withTracks(1, 1, 5, 1, 32, 1);
        x.spread(0, 1, 127);
        due("1 over 1", "127", forces(x, 0));
        x.spread(0, 0, 127);
        due("0 over 1", "0", forces(x, 0));
        String[] want = {"0 0 0 0 0", "9 0 0 0 0", "9 0 0 9 0", "9 0 9 0 9", "9 0 9 9 9",
            "9 9 9 9 9"};
        for (int hits = 0; hits <= 5; hits++) {
            x.spread(1, hits, 9);
            due(hits + " over 5", want[hits], forces(x, 1));
        }
        x.spread(2, 32, 1);
        due("32 over 32", ("1 ".repeat(32)).trim(), forces(x, 2));
        x.spread(2, 31, 1);
        due("31 over 32", "1 0 " + ("1 ".repeat(30)).trim(), forces(x, 2));
        x.spread(2, 1, 1);
        due("1 over 32", "1" + " 0".repeat(31), forces(x, 2));
    }

    private static void p9LastHit() {
        sentence("Returns the step of the last hit; -1 if there is none.");
        PolyDrums x = withTracks(1, 1, 5, 1, 32, 1);
        due("0 over 1", -1, x.spread(0, 0, 1));
        due("1 over 1", 0, x.spread(0, 1, 1));
        int[] want = {-1, 0, 3, 4, 4, 4};
        for (int hits = 0; hits <= 5; hits++) {
            due(hits + " over 5", want[hits], x.spread(1, hits, 127));
        }
        due("0 over 32", -1, x.spread(2, 0, 127));
        due("1 over 32", 0, x.spread(2, 1, 127));
        due("2 over 32", 16, x.spread(2, 2, 127));
        due("32 over 32", 31, x.spread(2, 32, 127));
        due("0 over 32 again", -1, x.spread(2, 0, 127));
    }

    private static void p9AsAtFirst() {
        sentence("strokes and turns of all steps are as at first");
        for (int hits : new int[] {0, 1, 32}) {
            PolyDrums x = withTracks(32, 1);
            for (int step = 0; step < 32; step++) {
                x.set(0, step, 127, 4);
                x.setTurn(0, step, 7, 8);
            }
            x.spread(0, hits, 9);
            for (int step = 0; step < 32; step++) {
                String force = hits == 32 || hits == 1 && step == 0 ? "9" : "0";
                due(hits + " hits, step " + step, force + " 1 0 1", wholeStep(x, 0, step));
            }
        }
    }

    private static void p10BeyondTheLastOne() {
        sentence("Moves all steps of a track (with all they have) on by some places; "
                + "what would be beyond the last one comes to the first ones.");
        for (int n : new int[] {1, 2, 3, 30, 31, 32}) {
            for (int places : new int[] {0, 1, n - 1, n, 30, 31}) {
                if (places > 31) {
                    continue;
                }
                PolyDrums x = withTracks(n, 1);
                for (int step = 0; step < n; step++) {
                    x.set(0, step, step + 1, 1 + step % 4);
                    x.setTurn(0, step, step % 7, 8 - step % 2);
                }
                due("steps with a force", n, x.rotate(0, places));
                for (int step = 0; step < n; step++) {
                    due(n + " steps by " + places + ", step " + step,
                            step + 1 + " " + (1 + step % 4) + " " + step % 7 + " " + (8 - step % 2),
                            wholeStep(x, 0, (step + places) % n));
                }
            }
        }
    }

    private static void p10StepsWithForce() {
        sentence("Returns the number of steps with a force greater than 0.");
        PolyDrums x = withTracks(32, 1, 1, 1);
        due("none of 32", 0, x.rotate(0, 31));
        due("none of 1", 0, x.rotate(1, 31));
        x.set(0, 31, 1, 1);
        due("one of 32", 1, x.rotate(0, 0));
        x.spread(0, 32, 1);
        due("all of 32", 32, x.rotate(0, 31));
        x.stretch(0, 1);
        due("of those that are left", 1, x.rotate(0, 31));
        x.set(1, 0, 127, 1);
        due("one of 1", 1, x.rotate(1, 31));
    }

    private static void p11Fewer() {
        sentence("Returns the number before.");
        PolyDrums x = withTracks(32, 3);
        for (int step = 0; step < 32; step++) {
            x.set(0, step, step + 1, 1);
        }
        due("32 to 31", 32, x.stretch(0, 31));
        due("31 to 2", 31, x.stretch(0, 2));
        due("2 to 2", 2, x.stretch(0, 2));
        due("two are left", "1 2", forces(x, 0));
        due("2 to 1", 2, x.stretch(0, 1));
        due("1 to 1", 1, x.stretch(0, 1));
        due("one is left", "1", forces(x, 0));
        due("the round of one", "0 3 6", hitTicks(x, 0, 0, 9));
        due("one", 1, x.track(0, 0));
    }

    private static void p11More() {
        sentence("If there are more than before, the steps behind the old ones are copies of them, "
                + "from step 0 on, again and again.");
        PolyDrums x = withTracks(3, 1, 32, 1);
        for (int step = 0; step < 3; step++) {
            x.set(0, step, 10 + step, 2 + step);
            x.setTurn(0, step, step, 4 + step);
        }
        due("3 to 4", 3, x.stretch(0, 4));
        due("one copy", "10 2 0 4", wholeStep(x, 0, 3));
        due("4 to 3", 4, x.stretch(0, 3));
        due("3 to 32", 3, x.stretch(0, 32));
        for (int step = 0; step < 32; step++) {
            int from = step % 3;
            due("copy " + step, 10 + from + " " + (2 + from) + " " + from + " " + (4 + from),
                    wholeStep(x, 0, step));
        }
        // What had been there once is gone, and is not what a step gets.
        x.set(1, 31, 99, 4);
        x.setTurn(1, 31, 7, 8);
        x.stretch(1, 31);
        due("31 to 32", 31, x.stretch(1, 32));
        due("the last one is a copy of the first", "0 1 0 1", wholeStep(x, 1, 31));
        x.set(1, 0, 5, 3);
        x.stretch(1, 1);
        due("1 to 32", 1, x.stretch(1, 32));
        due("all are copies of the only one", ("5 ".repeat(32)).trim(), forces(x, 1));
        due("32 to 32", 32, x.stretch(1, 32));
        due("they stay", ("5 ".repeat(32)).trim(), forces(x, 1));
    }

    private static String taps(PolyDrums x, int from, int to) {
        StringBuilder text = new StringBuilder();
        for (int t = from; t < to; t++) {
            text.append(t == from ? "" : " ").append(x.tap(0, t, 1));
        }
        return text.toString();
    }

    private static void p12Distance() {
        sentence("the distance of step s is the difference of p and s * d and its delay together");
        PolyDrums x = withTracks(4, 4);
        due("without swing", "0 0 0 1 1 1 1 2 2 2 2 3 3 3 0 0", taps(x, 0, 16));
        x.tune(0, 3, 10, 0);
        // The steps lie at 0, 7, 8 and 15, and step 0 at 16 again.
        due("with swing", "0 0 0 0 1 1 1 1 2 2 2 2 3 3 3 3", taps(x, 0, 16));
        x.tune(0, 1, 10, 0);
        // 0, 5, 8, 13 and 16.
        due("with a small swing", "0 0 0 1 1 1 1 2 2 2 2 3 3 3 3 0", taps(x, 0, 16));
    }

    private static void p12DistanceOfStep0() {
        sentence("that of step 0 is the smaller one of this, and of the difference of p and n * d");
        PolyDrums x = withTracks(2, 10);
        due("ahead of the middle of the last step and the end", 1, x.tap(0, 14, 1));
        due("in the middle", 0, x.tap(0, 15, 1));
        due("behind it", 0, x.tap(0, 16, 1));
        due("the last tick of the round", 0, x.tap(0, 19, 1));
        x.tune(0, 9, 10, 0);
        due("the last step lies there itself", 1, x.tap(0, 19, 1));
        due("step 0 of the next round", 0, x.tap(0, 20, 1));
        due("between 0 and 19: nearer to 0", 0, x.tap(0, 9, 1));
        due("between 0 and 19: nearer to 19", 1, x.tap(0, 10, 1));
        PolyDrums one = withTracks(1, 48);
        for (int t : new int[] {0, 24, 25, 47, 48}) {
            due("the only step, tick " + t, 0, one.tap(0, t, 1));
        }
    }

    private static void p12SmallestNumber() {
        sentence("Of several steps it is the one with the smallest number.");
        PolyDrums x = withTracks(32, 2);
        due("between 0 and 1", 0, x.tap(0, 1, 1));
        due("between 30 and 31", 30, x.tap(0, 61, 1));
        due("between 31 and 0", 0, x.tap(0, 63, 1));
        due("on 31", 31, x.tap(0, 62, 1));
        PolyDrums swung = withTracks(3, 5);
        swung.tune(0, 3, 10, 0);
        due("between 0 and 8", 0, swung.tap(0, 4, 1));
        due("between 8 and 10", 1, swung.tap(0, 9, 1));
        // Step 2 lies at 10, step 0 of the next round at 15.
        due("nearer to 10", 2, swung.tap(0, 12, 1));
        due("nearer to 15", 0, swung.tap(0, 13, 1));
    }

    private static void p12WrapOfTicks() {
        sentence("For p = tick % (n * d)");
        PolyDrums x = withTracks(32, 48, 1, 1);
        due("the last tick of the first round", 0, x.tap(0, 1535, 1));
        due("the first tick of the second round", 0, x.tap(0, 1536, 1));
        due("step 1 of the second round", 1, x.tap(0, 1536 + 48, 1));
        // 99999 lies at 159 of its round, between step 3 at 144 and step 4 at 192.
        due("the last tick of all", 3, x.tap(0, LAST_TICK, 127));
        due("it has the force", 127, x.step(0, 3, 0));
        due("in a round of one tick", 0, x.tap(1, LAST_TICK, 1));
        x.addSection(1000, 0, true);
        x.addSection(1000, 255, true);
        due("in a section that begins anew", 21, x.tap(0, 1008, 1));
        due("in a section without it", 2, x.tap(0, 96, 1));
        due("behind the sections", 11, x.tap(0, 1536 + 528, 1));
    }

    private static void p13Tracks() {
        sentence("Returns the number of tracks.");
        PolyDrums x = new PolyDrums();
        due("none", 0, x.tracks());
        for (int k = 1; k <= 8; k++) {
            x.addTrack(1, 1);
            due("some", k, x.tracks());
        }
    }

    // ---- Promises: sections

    private static void p14Begin() {
        sentence("Returns the tick at which it begins.");
        PolyDrums longest = new PolyDrums();
        PolyDrums shortest = new PolyDrums();
        for (int k = 0; k < 12; k++) {
            due("of the longest ones", 5000 * k, longest.addSection(5000, 255, true));
            due("of the shortest ones", k, shortest.addSection(1, 0, false));
        }
        longest.dropSection();
        due("behind the one that is the last now", 55000, longest.addSection(1, 0, true));
        PolyDrums none = new PolyDrums();
        none.addSection(77, 0, true);
        none.dropSection();
        due("the first one again", 0, none.addSection(5, 0, true));
    }

    private static void p15Left() {
        sentence("Takes the last section away. Returns the number of sections that are left.");
        PolyDrums x = new PolyDrums();
        for (int k = 0; k < 12; k++) {
            x.addSection(k + 1, 0, true);
        }
        for (int left = 11; left >= 0; left--) {
            due("left", left, x.dropSection());
            due("their ticks", left * (left + 1) / 2, x.length());
        }
    }

    private static void p16NumberOfTheSection() {
        sentence("Returns the number of the section at this tick, from 0; -1 if there is none.");
        PolyDrums x = new PolyDrums();
        for (int k = 0; k < 12; k++) {
            x.addSection(5000, 0, true);
        }
        for (int k = 0; k < 12; k++) {
            due("its first tick", k, x.sectionAt(5000 * k));
            due("its last tick", k, x.sectionAt(5000 * k + 4999));
        }
        due("behind the last one", -1, x.sectionAt(60000));
        due("the last tick", -1, x.sectionAt(LAST_TICK));
    }

    private static void p16None() {
        sentence("-1 if there is none");
        PolyDrums x = new PolyDrums();
        due("without sections, tick 0", -1, x.sectionAt(0));
        x.addSection(1, 255, true);
        due("with one", 0, x.sectionAt(0));
        due("behind the one", -1, x.sectionAt(1));
        x.dropSection();
        due("without it again", -1, x.sectionAt(0));
    }

    private static void p17TicksOfAll() {
        sentence("Returns the ticks of all sections.");
        PolyDrums x = new PolyDrums();
        due("none", 0, x.length());
        x.addSection(1, 0, true);
        due("one of 1", 1, x.length());
        x.dropSection();
        due("none again", 0, x.length());
        for (int k = 1; k <= 12; k++) {
            x.addSection(5000, 0, false);
            due("of 5000", 5000 * k, x.length());
        }
    }

    // ---- Promises: what sounds

    private static void p18NoHit() {
        sentence("Returns the loudness of the hit that it makes at this tick; 0 if it makes none.");
        PolyDrums x = hittingEvery(10, 1);
        due("at its tick", 100, x.loudness(0, 99990));
        due("a tick behind it", 0, x.loudness(0, 99991));
        due("a tick ahead of it", 0, x.loudness(0, 99989));
        due("the last tick", 0, x.loudness(0, LAST_TICK));
        due("the last tick, another", 100, x.loudness(1, LAST_TICK));
        x.tune(0, 0, 10, 1);
        x.tune(1, 0, 10, 1);
        due("a hit that does not sound has its loudness", 100, x.loudness(0, 0));
        x.addSection(10, 1, true);
        due("not in the set of the section", 0, x.loudness(1, 0));
        due("behind the section", 0, x.loudness(0, 10));
    }

    private static void p19Set() {
        sentence("Returns the set of the tracks that make hits at this tick.");
        due("without tracks", 0, new PolyDrums().hits(0));
        due("tracks without forces", 0, eight(32, 48).hits(0));
        PolyDrums x = hittingEvery(1, 2, 3, 4, 5, 6, 7, 8);
        due("all eight", 255, x.hits(0));
        due("all eight again", 255, x.hits(840));
        due("only the first one", 1, x.hits(1));
        due("the last tick", 1 + 4, x.hits(LAST_TICK));
        due("only the last ones", 1 + 2 + 8 + 128, x.hits(8));
    }

    private static void p20Set() {
        sentence("Returns the set of the tracks that sound at this tick.");
        due("without tracks", 0, new PolyDrums().sounding(LAST_TICK));
        due("tracks without forces", 0, eight(32, 48).sounding(0));
        PolyDrums x = hittingEvery(48, 48, 48, 48, 48, 48, 48, 48);
        for (int k = 0; k < 8; k++) {
            x.tune(k, 0, k + 1, 0);
        }
        due("all eight, then one less at each tick", "255 254 252 248 240 224 192 128 0",
                soundingFrom(x, 0, 9));
        // 99984 is the last begin of a round, 2083 * 48.
        due("at the last ticks", "0 255 254", soundingFrom(x, 99983, 99986));
    }

    private static void p21FirstTick() {
        sentence("Returns the first tick from this one on");
        PolyDrums x = hittingEvery(10, 1);
        due("this one", 20, x.next(0, 20));
        due("behind it", 30, x.next(0, 21));
        due("the one ahead of a hit", 30, x.next(0, 29));
        due("0", 0, x.next(0, 0));
        due("each tick", 12345, x.next(1, 12345));
    }

    private static void p21Farthest() {
        sentence("but at most 3000 ticks behind it");
        PolyDrums x = hittingEvery(1);
        x.addSection(5000, 0, true);
        x.addSection(1, 1, true);
        due("3001 ticks", -1, x.next(0, 1999));
        due("3000 ticks", 5000, x.next(0, 2000));
        due("2999 ticks", 5000, x.next(0, 2001));
        due("0 ticks", 5000, x.next(0, 5000));
        due("none behind it", -1, x.next(0, 5001));
        PolyDrums none = withTracks(1, 1);
        due("no step with a force", -1, none.next(0, 0));
    }

    private static void p21LastTick() {
        sentence("and at most 99999, at which it makes a hit; -1 if there is none");
        PolyDrums x = withTracks(32, 48, 32, 48);
        // 99999 lies at 159 of its round: 15 behind step 3. 100000 would be 16 behind it.
        x.set(0, 3, 5, 1);
        x.tune(0, 15, 10, 0);
        due("at 99999", LAST_TICK, x.next(0, LAST_TICK));
        due("at 99999, from its round on", LAST_TICK, x.next(0, 99840));
        due("at 99999, from the hit ahead of it on", LAST_TICK, x.next(0, 98464));
        x.set(1, 3, 5, 1);
        x.tune(1, 16, 10, 0);
        due("at 100000", -1, x.next(1, LAST_TICK));
        due("at 100000, from the last hit on", 98464, x.next(1, 98464));
        due("at 100000, behind the last hit", -1, x.next(1, 98465));
    }

    private static void p22FromAndTo() {
        sentence("Returns how many hits it makes from the first tick on, ahead of the second one.");
        PolyDrums x = hittingEvery(10, 1);
        due("with the first tick", 1, x.count(0, 10, 11));
        due("without the second one", 1, x.count(0, 10, 20));
        due("with it", 2, x.count(0, 10, 21));
        due("between two hits", 0, x.count(0, 11, 20));
        due("no ticks, at a hit", 0, x.count(0, 10, 10));
        due("the most ticks", 3000, x.count(1, 0, 3000));
        due("the last ones", 3000, x.count(1, 96999, LAST_TICK));
        due("one tick", 1, x.count(1, 99998, LAST_TICK));
        x.set(1, 0, 0, 1);
        due("no step with a force", 0, x.count(1, 0, 3000));
    }

    private static void p23Both() {
        sentence("Returns at how many ticks from the first one on, ahead of the second one, "
                + "both make hits.");
        PolyDrums x = hittingEvery(10, 6, 1);
        due("with the first tick", 1, x.together(0, 1, 30, 31));
        due("without the second one", 1, x.together(0, 1, 30, 60));
        due("with it", 2, x.together(0, 1, 30, 61));
        due("no ticks", 0, x.together(0, 1, 30, 30));
        due("the most ticks, a track with itself", 3000, x.together(2, 2, 96999, LAST_TICK));
        due("a track with itself", 300, x.together(0, 0, 0, 3000));
        x.turn(1, 0, true);
        due("one of them is muted", 0, x.together(0, 1, 0, 3000));
        due("one of them is muted, the other way", 0, x.together(1, 0, 0, 3000));
        x.turn(1, 0, false);
        x.tune(0, 0, 10, 2);
        x.tune(1, 0, 10, 2);
        due("hits that do not sound count", 100, x.together(0, 1, 0, 3000));
    }

    private static void p24Rounds() {
        sentence("the least number that can be divided by b of all its steps "
                + "with a force greater than 0 (1 if there are none)");
        PolyDrums x = withTracks(32, 48);
        due("no step with a force", 1, x.rounds(0));
        x.setTurn(0, 31, 0, 8);
        due("a turn without a force", 1, x.rounds(0));
        x.set(0, 31, 1, 1);
        due("the least force", 8, x.rounds(0));
        x.set(0, 31, 0, 1);
        due("its force is gone", 1, x.rounds(0));
        for (int b = 1; b <= 8; b++) {
            x.set(0, 32 - b, 127, 1);
            x.setTurn(0, 32 - b, b - 1, b);
        }
        due("of 1 to 8, the most", 840, x.rounds(0));
        x.stretch(0, 31);
        due("without the last step, of 1", 840, x.rounds(0));
        x.stretch(0, 25);
        due("only step 24 is left, of 8", 8, x.rounds(0));
        x.stretch(0, 24);
        due("none of them is left", 1, x.rounds(0));
        PolyDrums one = withTracks(1, 1);
        one.set(0, 0, 1, 1);
        for (int b = 1; b <= 8; b++) {
            one.setTurn(0, 0, 0, b);
            due("of " + b, b, one.rounds(0));
        }
    }

    private static void allTurns(PolyDrums x, int track, int... turns) {
        for (int step = 0; step < turns.length; step++) {
            x.set(track, step, 1, 1);
            x.setTurn(track, step, 0, turns[step]);
        }
    }

    private static void p25Period() {
        sentence("Returns the least number of ticks that can be divided by n * d * rounds() "
                + "of all tracks");
        PolyDrums x = withTracks(1, 1);
        due("the least track", 1L, x.period());
        x.addTrack(32, 48);
        due("the longest round", 1536L, x.period());
        allTurns(x, 1, 8, 7, 6, 5);
        due("the most rounds", 1536L * 840, x.period());
        PolyDrums same = eight(32, 48);
        due("eight that are the same", 1536L, same.period());
        due("three that share", 12L, withTracks(3, 4, 4, 3, 6, 2).period());
        PolyDrums silent = withTracks(3, 4, 5, 1, 7, 1);
        silent.turn(0, 0, true);
        silent.turn(1, 2, true);
        silent.turn(2, 1, true);
        silent.addSection(1, 0, true);
        due("tracks that make no hits too", 12L * 5 * 7, silent.period());
    }

    private static void p25WithoutTracks() {
        sentence("(1 without tracks)");
        PolyDrums x = new PolyDrums();
        due("nothing at all", 1L, x.period());
        x.addSection(5000, 255, true);
        due("a section", 1L, x.period());
    }

    private static void p25Greater() {
        sentence("-1 if this is greater than 1000000000");
        // 10 ^ 9 itself has nine times the 5, and no track has more than five of them: these are
        // the nearest numbers that can be, below it and above it.
        PolyDrums below = withTracks(27, 8, 25, 5, 7, 11, 13, 37);
        due("999999000", 999999000L, below.period());
        PolyDrums above = withTracks(31, 47, 23, 29, 7, 7);
        allTurns(above, 2, 7, 3);
        due("1000001751", -1L, above.period());
        above.set(2, 0, 0, 1);
        due("a seventh of it", 1000001751L / 7, above.period());
        PolyDrums most = withTracks(31, 47, 29, 43, 23, 41, 19, 37, 17, 48, 13, 25, 11, 47,
                32, 27);
        allTurns(most, 0, 8, 7, 5, 3);
        due("the greatest ones", -1L, most.period());
        // At the seventh track this would be beyond 64 bits, if it were not looked at.
        PolyDrums wrapped = withTracks(31, 47, 29, 43, 23, 41, 19, 37, 32, 48, 25, 13, 11, 17,
                27, 35);
        due("beyond 64 bits", -1L, wrapped.period());
    }

    private static void p26Density() {
        sentence("Returns the sum over all its steps with a force greater than 0 "
                + "of the number of strokes divided by b");
        PolyDrums x = withTracks(32, 1, 1, 1);
        due("no step with a force", 0.0, x.density(0));
        x.set(0, 5, 0, 4);
        due("strokes without a force", 0.0, x.density(0));
        x.set(1, 0, 1, 1);
        x.setTurn(1, 0, 7, 8);
        due("the least", 0.125, x.density(1));
        for (int step = 0; step < 32; step++) {
            x.set(0, step, 127, 4);
        }
        due("the most", 128.0, x.density(0));
        x.stretch(0, 31);
        due("without the last step", 124.0, x.density(0));
        x.stretch(0, 1);
        due("only the first step", 4.0, x.density(0));
        x.stretch(0, 32);
        for (int step = 0; step < 32; step++) {
            x.setTurn(0, step, 0, step % 8 + 1);
        }
        double sum = 0.0;
        for (int step = 0; step < 32; step++) {
            sum += 4.0 / (step % 8 + 1);
        }
        due("32 steps with turns", sum, x.density(0));
    }

    private static void p26AscendingOrder() {
        sentence("(each one as a double, added in ascending order of the steps)");
        PolyDrums x = withTracks(4, 1);
        int[] turns = {3, 7, 5, 6};
        for (int step = 0; step < 4; step++) {
            x.set(0, step, 1, 4);
            x.setTurn(0, step, 0, turns[step]);
        }
        double up = 4.0 / 3.0 + 4.0 / 7.0 + 4.0 / 5.0 + 4.0 / 6.0;
        double down = 4.0 / 6.0 + 4.0 / 5.0 + 4.0 / 7.0 + 4.0 / 3.0;
        due("the order makes a difference", true, up != down);
        due("4 strokes each", up, x.density(0));
    }

    private static void p27BeatsBefore() {
        sentence("Returns the beats before.");
        PolyDrums x = new PolyDrums();
        due("at first", 120, x.setSpeed(30));
        due("the least", 30, x.setSpeed(300));
        due("the most", 300, x.setSpeed(300));
        due("the same", 300, x.setSpeed(31));
    }

    private static void p28Seconds() {
        sentence("Returns its time in seconds, with 24 ticks a beat");
        PolyDrums x = new PolyDrums();
        due("tick 0", 0.0, x.seconds(0));
        due("the last tick", 2083.3125, x.seconds(LAST_TICK));
        x.setSpeed(30);
        due("the last tick, slowest", 8333.25, x.seconds(LAST_TICK));
        due("a beat, slowest", 2.0, x.seconds(24));
        x.setSpeed(300);
        due("the last tick, fastest", 5999940.0 / 300.0 / 24.0, x.seconds(LAST_TICK));
        due("tick 1, fastest", 60.0 / 300.0 / 24.0, x.seconds(1));
    }

    /** The checksum of the numbers without any bound, to be cut to 64 bits in the end. */
    private static BigInteger checksum(List<Integer> numbers) {
        BigInteger d = BigInteger.valueOf(313);
        for (int x : numbers) {
            d = d.multiply(BigInteger.valueOf(31)).add(BigInteger.valueOf(x));
        }
        return d;
    }

    private static void p29WrapsAround() {
        sentence("which wraps around as a 64-bit integer");
        PolyDrums x = new PolyDrums();
        for (int count = 0; count <= 4; count++) {
            List<Integer> numbers = new ArrayList<>(List.of(120, 0, count));
            for (int k = 0; k < count; k++) {
                numbers.addAll(List.of(5000, 255, 1));
            }
            BigInteger want = checksum(numbers);
            // 3 numbers, and 3 more a section: 9 of them are still within 64 bits, 12 no longer.
            due(count + " sections within 64 bits", count <= 2, want.bitLength() <= 63);
            due(count + " sections", want.longValue(), x.digest());
            x.addSection(5000, 255, true);
        }
    }

    private static void p29EmptyAndFull() {
        sentence("the speed; the number of tracks, and for each of them what track() tells, "
                + "in its order, and for each of its steps its force, its number of strokes, "
                + "a and b; the number of sections, and for each of them its length, its set, "
                + "and 1 if it begins anew, else 0");
        PolyDrums x = new PolyDrums();
        due("empty", ((313L * 31 + 120) * 31 + 0) * 31 + 0, x.digest());
        List<Integer> numbers = new ArrayList<>(List.of(300, 8));
        x.setSpeed(300);
        for (int k = 0; k < 8; k++) {
            fillTrack(x, k, numbers);
        }
        numbers.add(12);
        for (int k = 0; k < 12; k++) {
            x.addSection(5000 - k, 255 - k, k % 2 == 1);
            numbers.addAll(List.of(5000 - k, 255 - k, k % 2));
        }
        due("8 tracks of 32 steps and 12 sections", checksum(numbers).longValue(), x.digest());
    }

    private static void fillTrack(PolyDrums x, int k, List<Integer> numbers) {
        x.addTrack(32, 48);
        x.tune(k, 47 - k, 200 - k, k % 4);
        x.turn(k, k % 3, true);
        x.spread(k, 32, 100 + k);
        x.set(k, 31, 127, 4);
        x.setTurn(k, 31, 7 - k, 8);
        numbers.addAll(List.of(32, 48, 47 - k, 200 - k, k % 4));
        for (int what = 0; what <= 2; what++) {
            numbers.add(k % 3 == what ? 1 : 0);
        }
        for (int step = 0; step <= 30; step++) {
            numbers.addAll(List.of(100 + k, 1, 0, 1));
        }
        numbers.addAll(List.of(127, 4, 7 - k, 8));
    }
}
