import java.util.ArrayList;
import java.util.LinkedHashMap;
import java.util.List;
import java.util.Map;

/**
 * Goes through the document from its first line to its last: what each sentence says that there is
 * or that a call does, over whole ranges of numbers, and that nothing else is changed. EdgeTest and
 * RefusalTest test the sentences that name an edge or refuse a call.
 *
 * No machine is used for more than 512 calls.
 */
public final class SentenceTest {
    private static final int LAST_TICK = 99999;
    private static final String[] OF_A_TRACK = {"n", "d", "swing", "ring", "group", "muted", "solo",
        "accent"};
    private static final String[] OF_A_STEP = {"force", "r", "a", "b"};

    private static String sentence = "";
    private static int wrong = 0;
    private static int checks = 0;

    public static void main(String[] args) {
        whatItIs();
        terms();
        tracksAndSteps();
        sections();
        whatSounds();
        notPromised();
        System.out.println("SentenceTest: " + checks + " checks, " + wrong + " wrong");
        if (wrong != 0) {
            System.exit(1);
        }
    }

    private static void terms() {
        eachTrackGoesRound();
        whatHitsAre();
        tracksChoke();
        sectionsSayWho();
        whenAllComesRound();
        aTrackHas();
        aStepHas();
        aSectionHas();
        whoStrikes();
        theTurnOfItsStep();
        theStrokesOfItsStep();
        hitsOfOthers();
        theLoudness();
        theSound();
    }

    private static void tracksAndSteps() {
        p1();
        p2();
        p3();
        p4();
        p5();
        p6();
        p7();
        p8();
        p9();
        p9Ranges();
        p10();
        p10Ranges();
        p11();
        p11Ranges();
        p12();
        p12Ranges();
        p13();
    }

    private static void sections() {
        p14();
        p15();
        p16();
        p17();
    }

    private static void whatSounds() {
        p18();
        p19();
        p20();
        p21();
        p22();
        p23();
        p24();
        p25();
        p26();
        p27();
        p28();
        p29();
    }

    // ---- how it is checked

    private static void sentence(String words) {
        sentence = words;
    }

    private static void due(String what, Object want, Object got) {
        checks++;
        if (!want.equals(got)) {
            wrong++;
            System.out.println("\"" + sentence + "\": " + what + ": answered " + got
                    + ", due is " + want);
        }
    }

    private static PolyDrums withTracks(int... sizes) {
        PolyDrums x = new PolyDrums();
        for (int i = 0; i + 1 < sizes.length; i += 2) {
            x.addTrack(sizes[i], sizes[i + 1]);
        }
        return x;
    }

    /** Three tracks of different lengths and two sections, with no number as at first. */
    private static PolyDrums sample() {
        PolyDrums x = withTracks(4, 6, 3, 5, 2, 7);
        int force = 10;
        for (int k = 0; k < 3; k++) {
            for (int s = 0; s < 4 - k; s++) {
                force += 7;
                x.set(k, s, force, (s + k) % 3 + 2);
                x.setTurn(k, s, s % 2 + 1, s + 3);
            }
            x.tune(k, k + 1, 20 + k, k + 1);
        }
        x.turn(2, 1, true);
        x.addSection(40, 5, false);
        x.addSection(30, 7, true);
        x.setSpeed(97);
        return x;
    }

    /** All that a machine tells of its tracks, by names. */
    private static Map<String, Integer> told(PolyDrums x) {
        Map<String, Integer> told = new LinkedHashMap<>();
        told.put("tracks", x.tracks());
        for (int k = 0; k < x.tracks(); k++) {
            for (int what = 0; what < OF_A_TRACK.length; what++) {
                told.put(k + "." + OF_A_TRACK[what], x.track(k, what));
            }
            for (int s = 0; s < x.track(k, 0); s++) {
                for (int what = 0; what < OF_A_STEP.length; what++) {
                    told.put(k + "." + s + "." + OF_A_STEP[what], x.step(k, s, what));
                }
            }
        }
        return told;
    }

    private static long digestOf(int speed, Map<String, Integer> told, int... sections) {
        long d = 313L * 31 + speed;
        for (int number : told.values()) {
            d = d * 31 + number;
        }
        d = d * 31 + sections.length / 3;
        for (int number : sections) {
            d = d * 31 + number;
        }
        return d;
    }

    private static String changes(Map<String, Integer> before, Map<String, Integer> behind) {
        List<String> changes = new ArrayList<>();
        for (String name : behind.keySet()) {
            if (!behind.get(name).equals(before.get(name))) {
                changes.add(name + "=" + behind.get(name));
            }
        }
        for (String name : before.keySet()) {
            if (!behind.containsKey(name)) {
                changes.add("no " + name);
            }
        }
        return String.join(" ", changes);
    }

    private interface Call {
        Object on(PolyDrums x);
    }

    /** On a sample the call answers this and changes this, but nothing else, nor the song. */
    private static void dueChange(String what, Object want, String wantedChanges, Call call) {
        PolyDrums x = sample();
        Map<String, Integer> before = told(x);
        due(what + ", the answer", want, call.on(x));
        Map<String, Integer> behind = told(x);
        due(what + ", what it changes", wantedChanges, changes(before, behind));
        due(what + ", the digest", digestOf(97, behind, 40, 5, 0, 30, 7, 1), x.digest());
        due(what + ", the speed", 97, x.setSpeed(97));
    }

    private static String ticksOf(PolyDrums x, int track, int from, int to) {
        StringBuilder text = new StringBuilder();
        for (int t = from; t < to; t++) {
            if ((x.hits(t) >> track & 1) == 1) {
                text.append(text.length() == 0 ? "" : " ").append(t);
            }
        }
        return text.toString();
    }

    // ---- What it is

    private static void whatItIs() {
        sentence("A drum machine for tracks of different lengths.");
        PolyDrums x = withTracks(3, 4, 4, 3, 5, 6, 1, 7, 7, 1);
        for (int k = 0; k < 5; k++) {
            x.set(k, 0, 1, 1);
        }
        int[] rounds = {12, 12, 30, 7, 7};
        for (int t = 0; t < 450; t++) {
            int want = 0;
            for (int k = 0; k < 5; k++) {
                want += t % rounds[k] == 0 ? 1 << k : 0;
            }
            due("hits at " + t, want, x.hits(t));
        }
    }

    // ---- Terms

    private static void eachTrackGoesRound() {
        sentence("Each track goes round its own steps;");
        PolyDrums x = withTracks(3, 4, 5, 4);
        x.set(0, 0, 10, 1);
        x.set(0, 2, 12, 1);
        x.set(1, 3, 23, 1);
        due("three steps", "0 8 12 20 24 32 36 44", ticksOf(x, 0, 0, 48));
        due("five steps", "12 32 52 72", ticksOf(x, 1, 0, 80));
        due("their forces", "12 12 23", x.loudness(0, 8) + " " + x.loudness(0, 32) + " "
                + x.loudness(1, 32));
    }

    private static void whatHitsAre() {
        sentence("hits are repeated, delayed, left out now and then, and made louder by accents;");
        PolyDrums x = withTracks(2, 12, 1, 24);
        x.set(0, 1, 50, 1);
        due("plain", "12 36 60", ticksOf(x, 0, 0, 72));
        x.set(0, 1, 50, 3);
        due("repeated", "12 16 20 36 40 44", ticksOf(x, 0, 0, 48));
        x.tune(0, 3, 10, 0);
        due("delayed", "15 18 21 39 42 45", ticksOf(x, 0, 0, 48));
        x.setTurn(0, 1, 1, 2);
        due("left out now and then", "39 42 45 87 90 93", ticksOf(x, 0, 0, 96));
        x.set(1, 0, 40, 4);
        x.turn(1, 2, true);
        due("made louder", "50 60 50", x.loudness(0, 39) + " " + x.loudness(0, 42) + " "
                + x.loudness(0, 45));
    }

    private static void tracksChoke() {
        sentence("tracks choke each other;");
        PolyDrums x = withTracks(2, 10, 2, 10);
        x.set(0, 0, 1, 1);
        x.set(1, 1, 1, 1);
        x.tune(0, 0, 20, 2);
        x.tune(1, 0, 20, 2);
        for (int t = 0; t < 100; t++) {
            due("sounding at " + t, t / 10 % 2 + 1, x.sounding(t));
        }
    }

    private static void sectionsSayWho() {
        sentence("sections say who plays when;");
        PolyDrums x = withTracks(1, 1, 1, 1, 1, 1);
        for (int k = 0; k < 3; k++) {
            x.set(k, 0, 1, 1);
        }
        int[] sets = {1, 6, 0, 7, 5};
        for (int set : sets) {
            x.addSection(9, set, set % 2 == 0);
        }
        for (int t = 0; t < 45; t++) {
            due("who plays at " + t, sets[t / 9], x.hits(t));
        }
    }

    private static void whenAllComesRound() {
        sentence("and the machine tells what sounds at each tick, and when all of it comes round "
                + "again.");
        PolyDrums x = withTracks(3, 2, 4, 3);
        x.spread(0, 2, 50);
        x.spread(1, 3, 60);
        x.setTurn(1, 2, 1, 2);
        x.tune(0, 1, 2, 1);
        x.tune(1, 2, 30, 1);
        due("period", 24L, x.period());
        // From the second round on: in the first one, nothing sounds on from ahead of tick 0.
        for (int t = 24; t < 100; t++) {
            due("hits at " + t, x.hits(t), x.hits(t + 24));
            due("sounding at " + t, x.sounding(t), x.sounding(t + 24));
        }
    }

    private static void aTrackHas() {
        sentence("A track has n steps, 1 to 32, numbered from 0, and each of them takes d ticks, "
                + "1 to 48;");
        for (int n = 1; n <= 32; n++) {
            for (int d = 1; d <= 48; d++) {
                PolyDrums x = withTracks(n, d);
                x.set(0, n - 1, 9, 1);
                due(n + " steps of " + d + " ticks, its last step", (n - 1) * d, x.next(0, 0));
                due(n + " steps of " + d + " ticks, a round on", (2 * n - 1) * d,
                        x.next(0, (n - 1) * d + 1));
            }
        }
    }

    private static void aStepHas() {
        sentence("A step has a force, 0 to 127 (0, at first: nothing), a number of strokes r, "
                + "1 to 4 (1, at first), and a turn a of b, 0 <= a < b <= 8 (0 of 1, at first).");
        PolyDrums x = withTracks(32, 1);
        for (int s = 0; s < 32; s++) {
            String first = "0 1 0 1";
            due("step " + s + " at first", first, x.step(0, s, 0) + " " + x.step(0, s, 1) + " "
                    + x.step(0, s, 2) + " " + x.step(0, s, 3));
        }
        for (int force = 0; force <= 127; force++) {
            x.set(0, 5, force, force % 4 + 1);
            due("force " + force, force, x.step(0, 5, 0));
        }
        PolyDrums turned = withTracks(1, 1);
        for (int b = 1; b <= 8; b++) {
            for (int a = 0; a < b; a++) {
                turned.setTurn(0, 0, a, b);
                due("turn " + a + " of " + b, a * 10 + b,
                        turned.step(0, 0, 2) * 10 + turned.step(0, 0, 3));
            }
        }
    }

    private static void aSectionHas() {
        sentence("a section has a length, 1 to 5000 ticks, a set of tracks (as the sum of the "
                + "powers 2^k of their numbers k), and begins anew, or goes on.");
        PolyDrums x = withTracks(1, 1, 1, 1, 1, 1, 1, 1, 1, 1, 1, 1, 1, 1, 1, 1);
        for (int k = 0; k < 8; k++) {
            x.set(k, 0, 1, 1);
        }
        for (int set = 0; set < 120; set++) {
            int of = set < 8 ? 1 << set : set * 7 % 256;
            x.addSection(3, of, set % 2 == 0);
            due("set " + of, of, x.hits(2));
            x.dropSection();
        }
        for (int length = 1; length <= 5000; length += 357) {
            PolyDrums song = withTracks(7, 1);
            song.set(0, 0, 1, 1);
            song.addSection(length, 1, false);
            song.addSection(100, 1, true);
            song.addSection(100, 1, false);
            due("begins anew behind " + length, length, song.next(0, length));
            int goesOn = length + 100;
            due("goes on behind " + length, (goesOn + 6) / 7 * 7, song.next(0, goesOn));
        }
    }

    private static void whoStrikes() {
        sentence("A track strikes at a tick with the local time u, if it plays then, and is "
                + "neither muted, nor left out since another track is solo and it is not;");
        for (int flags = 0; flags < 512; flags++) {
            PolyDrums x = withTracks(1, 5, 1, 5, 1, 5);
            for (int k = 0; k < 3; k++) {
                x.set(k, 0, 40 << k - k / 2, 1);
                for (int what = 0; what < 3; what++) {
                    x.turn(k, what, isOn(flags, k, what));
                }
            }
            x.addSection(10, 7, true);
            x.addSection(10, 5, true);
            due("all play, flags " + flags, striking(flags, 7), loudnessOfAll(x, 5));
            due("two play, flags " + flags, striking(flags, 5), loudnessOfAll(x, 15));
        }
    }

    private static boolean isOn(int flags, int track, int what) {
        return (flags >> 3 * track + what & 1) == 1;
    }

    private static String loudnessOfAll(PolyDrums x, int tick) {
        return x.loudness(0, tick) + " " + x.loudness(1, tick) + " " + x.loudness(2, tick);
    }

    /** The loudness of three tracks with the forces 40, 80 and 80, by the words of the sentence. */
    private static String striking(int flags, int set) {
        int[] forces = {40, 80, 80};
        boolean isAnySolo = isOn(flags, 0, 1) || isOn(flags, 1, 1) || isOn(flags, 2, 1);
        int accents = 0;
        for (int k = 0; k < 3; k++) {
            boolean isLeftOut = isAnySolo && !isOn(flags, k, 1);
            if ((set >> k & 1) == 0 || isOn(flags, k, 0) || isLeftOut) {
                forces[k] = 0;
            }
            if (isOn(flags, k, 2)) {
                accents += forces[k];
                forces[k] = 0;
            }
        }
        StringBuilder text = new StringBuilder();
        for (int k = 0; k < 3; k++) {
            int loudness = forces[k] == 0 ? 0 : Math.min(127, forces[k] + accents / 4);
            text.append(k == 0 ? "" : " ").append(loudness);
        }
        return text.toString();
    }

    private static void theTurnOfItsStep() {
        sentence("and, for c = u / (n * d), p = u % (n * d) and its step s = p / d, with the delay "
                + "q of this step: the force of the step is greater than 0; c % b is a (of its "
                + "turn);");
        for (int b = 1; b <= 8; b++) {
            for (int a = 0; a < b; a++) {
                PolyDrums x = withTracks(3, 2);
                x.set(0, 1, 77, 1);
                x.setTurn(0, 1, a, b);
                for (int t = 0; t < 6 * 20; t++) {
                    boolean isHit = t / 6 % b == a && t % 6 == 2;
                    due("turn " + a + " of " + b + " at " + t, isHit ? 77 : 0, x.loudness(0, t));
                }
                x.set(0, 1, 0, 1);
                due("without a force, " + a + " of " + b, 0, x.count(0, 0, 3000));
            }
        }
    }

    private static void theStrokesOfItsStep() {
        sentence("and p - s * d is q + i * (d - q) / r for some i from 0 to r - 1.");
        for (int d = 1; d <= 48; d++) {
            for (int q = 0; q < d; q++) {
                PolyDrums x = withTracks(2, d);
                x.tune(0, q, 10, 0);
                for (int r = 1; r <= 4; r++) {
                    x.spread(0, 2, 1);
                    x.set(0, 0, 1, r);
                    x.set(0, 1, 1, r);
                    due(d + " ticks, delay " + q + ", strokes " + r, strokes(0, d, 0, r) + " "
                            + strokes(d, d, q, r), ticksOf(x, 0, 0, 2 * d));
                }
            }
        }
    }

    private static String strokes(int begin, int d, int q, int r) {
        StringBuilder text = new StringBuilder();
        int last = -1;
        for (int i = 0; i < r; i++) {
            int tick = q + i * (d - q) / r;
            if (tick != last) {
                text.append(i == 0 ? "" : " ").append(begin + tick);
            }
            last = tick;
        }
        return text.toString();
    }

    private static void hitsOfOthers() {
        sentence("A track that is an accent makes no hits. Each other track that strikes makes a "
                + "hit.");
        for (int accents = 0; accents < 16; accents++) {
            PolyDrums x = withTracks(1, 1, 1, 1, 1, 1, 1, 1);
            for (int k = 0; k < 4; k++) {
                x.set(k, 0, 5, 1);
                x.turn(k, 2, (accents >> k & 1) == 1);
            }
            due("accents " + accents, 15 - accents, x.hits(9));
            due("sounding, accents " + accents, 15 - accents, x.sounding(9));
            for (int k = 0; k < 4; k++) {
                boolean isAccent = (accents >> k & 1) == 1;
                due("next, accents " + accents, isAccent ? -1 : 9, x.next(k, 9));
                due("count, accents " + accents, isAccent ? 0 : 50, x.count(k, 0, 50));
                due("together, accents " + accents, isAccent ? 0 : 50, x.together(k, k, 0, 50));
            }
        }
    }

    private static void theLoudness() {
        sentence("Its loudness is the force of the step, and a quarter of the forces with which "
                + "accents strike at this tick (all together, then divided by 4), but at most "
                + "127.");
        for (int force : new int[] {1, 50, 96, 97, 120, 127}) {
            for (int first = 0; first <= 127; first++) {
                PolyDrums x = withTracks(1, 1, 1, 1, 1, 1);
                x.set(0, 0, force, 1);
                x.set(1, 0, first, 1);
                x.turn(1, 2, true);
                x.turn(2, 2, true);
                for (int second : new int[] {0, 1, 2, 3, 127}) {
                    x.set(2, 0, second, 1);
                    due(force + " with " + first + " and " + second,
                            Math.min(127, force + (first + second) / 4), x.loudness(0, 3));
                }
            }
        }
    }

    private static void theSound() {
        sentence("A hit of a track sounds from its tick on, as many ticks as its ring, or until "
                + "the track makes its next hit, or until another track of the same group (other "
                + "than 0) makes a hit; if two tracks of a group make hits at the same tick, that "
                + "with the smaller number does not sound.");
        int[][] rings = {{1, 1, 1}, {3, 8, 20}, {200, 200, 200}, {13, 2, 6}, {9, 40, 1}};
        for (int[] ring : rings) {
            for (int groups = 0; groups < 64; groups++) {
                int[] group = {groups % 4, groups / 4 % 4, groups / 16};
                PolyDrums x = withTracks(5, 3, 7, 2, 3, 11);
                for (int k = 0; k < 3; k++) {
                    x.spread(k, k + 1, 60);
                    x.tune(k, 1, ring[k], group[k]);
                }
                int[] hits = new int[90];
                for (int t = 0; t < 90; t++) {
                    hits[t] = x.hits(t);
                }
                for (int t = 0; t < 90; t++) {
                    due("sounding at " + t + ", groups " + groups, sounding(hits, ring, group, t),
                            x.sounding(t));
                }
            }
        }
    }

    private static int sounding(int[] hits, int[] ring, int[] group, int tick) {
        int set = 0;
        for (int k = 0; k < 3; k++) {
            for (int begin = 0; begin <= tick; begin++) {
                boolean isHit = (hits[begin] >> k & 1) == 1;
                if (isHit && tick < endOfSound(hits, ring[k], group, k, begin)) {
                    set |= 1 << k;
                }
            }
        }
        return set;
    }

    private static int endOfSound(int[] hits, int ring, int[] group, int track, int begin) {
        int ofItsGroup = 0;
        for (int k = 0; k < 3; k++) {
            ofItsGroup |= k != track && group[k] == group[track] && group[k] != 0 ? 1 << k : 0;
        }
        if ((hits[begin] & ofItsGroup) >> track != 0) {
            return begin;
        }
        int end = begin + 1;
        while (end < begin + ring && end < hits.length
                && (hits[end] & (ofItsGroup | 1 << track)) == 0) {
            end++;
        }
        return end;
    }

    // ---- promises: tracks and steps

    private static void p1() {
        sentence("Creates a machine without tracks and sections, with 120 beats a minute.");
        PolyDrums x = new PolyDrums();
        due("told", "tracks=0", changes(Map.of(), told(x)));
        due("sections", "0 -1", x.length() + " " + x.sectionAt(0));
        due("60 beats", 30.0, x.seconds(60 * 24));
        due("digest", digestOf(120, told(x)), x.digest());
    }

    private static void p2() {
        sentence("Adds a track. n: the number of its steps; d: the ticks of a step");
        dueChange("a fourth track", 3, "tracks=4 3.n=2 3.d=48 3.swing=0 3.ring=10 3.group=0 "
                + "3.muted=0 3.solo=0 3.accent=0 3.0.force=0 3.0.r=1 3.0.a=0 3.0.b=1 3.1.force=0 "
                + "3.1.r=1 3.1.a=0 3.1.b=1", x -> x.addTrack(2, 48));
    }

    private static void p3() {
        sentence("Sets a step. force: its force; r: the number of strokes");
        dueChange("both", 31, "0.2.force=127 0.2.r=1", x -> x.set(0, 2, 127, 1));
        dueChange("its force alone", 31, "0.2.force=0", x -> x.set(0, 2, 0, 4));
        dueChange("its strokes alone", 31, "0.2.r=3", x -> x.set(0, 2, 31, 3));
        dueChange("the last step of the last track", 73, "2.1.force=1", x -> x.set(2, 1, 1, 2));
    }

    private static void p4() {
        sentence("Sets the turn of a step.");
        dueChange("both", 5, "0.2.a=6 0.2.b=7", x -> x.setTurn(0, 2, 6, 7));
        dueChange("a alone", 5, "0.2.a=4", x -> x.setTurn(0, 2, 4, 5));
        dueChange("b alone", 5, "0.2.b=8", x -> x.setTurn(0, 2, 1, 8));
        dueChange("the last step of the last track", 4, "2.1.a=0 2.1.b=1",
                x -> x.setTurn(2, 1, 0, 1));
    }

    private static void p5() {
        sentence("what: 0 its force, 1 its number of strokes, 2 a, 3 b, 4 its delay");
        int[][] want = {{24, 3, 2, 4, 1}, {52, 4, 2, 4, 2}, {73, 2, 2, 4, 3}};
        for (int k = 0; k < 3; k++) {
            for (int what = 0; what <= 4; what++) {
                int track = k;
                int asked = what;
                dueChange("track " + k + ", what " + what, want[k][what], "",
                        x -> x.step(track, 1, asked));
            }
        }
    }

    private static void p6() {
        sentence("what: 0 the number of its steps, 1 the ticks of a step, 2 its swing, 3 its ring, "
                + "4 its group, 5 1 if it is muted, else 0, 6 1 if it is solo, else 0, 7 1 if it "
                + "is an accent, else 0");
        int[][] want = {{4, 6, 1, 20, 1, 0, 0, 0}, {3, 5, 2, 21, 2, 0, 0, 0},
            {2, 7, 3, 22, 3, 0, 1, 0}};
        for (int k = 0; k < 3; k++) {
            for (int what = 0; what <= 7; what++) {
                int track = k;
                int asked = what;
                dueChange("track " + k + ", what " + what, want[k][what], "",
                        x -> x.track(track, asked));
            }
        }
    }

    private static void p7() {
        sentence("Sets what a track does with its hits. swing: its swing; ring: its ring; group: "
                + "its group");
        dueChange("all", 2, "1.swing=4 1.ring=200 1.group=0", x -> x.tune(1, 4, 200, 0));
        dueChange("its swing", 2, "1.swing=0", x -> x.tune(1, 0, 21, 2));
        dueChange("its ring", 2, "1.ring=1", x -> x.tune(1, 2, 1, 2));
        dueChange("its group", 2, "1.group=3", x -> x.tune(1, 2, 21, 3));
        dueChange("nothing", 2, "", x -> x.tune(1, 2, 21, 2));
    }

    private static void p8() {
        sentence("Turns something on or off. what: 0 muted, 1 solo, 2 accent");
        for (int what = 0; what <= 2; what++) {
            int turned = what;
            String name = OF_A_TRACK[5 + what];
            dueChange(name + " on", false, "1." + name + "=1", x -> x.turn(1, turned, true));
            dueChange(name + " off", false, "", x -> x.turn(1, turned, false));
        }
        dueChange("solo on again", true, "", x -> x.turn(2, 1, true));
        dueChange("solo off", true, "2.solo=0", x -> x.turn(2, 1, false));
    }

    private static void p9() {
        sentence("Spreads hits over a track: step s gets the force if s * hits % n < hits, "
                + "otherwise 0; strokes and turns of all steps are as at first.");
        dueChange("two hits over three steps", 2, "1.0.force=5 1.0.r=1 1.0.a=0 1.0.b=1 1.1.force=0 "
                + "1.1.r=1 1.1.a=0 1.1.b=1 1.2.force=5 1.2.r=1 1.2.a=0 1.2.b=1",
                x -> x.spread(1, 2, 5));
        dueChange("no hits", -1, "2.0.force=0 2.0.r=1 2.0.a=0 2.0.b=1 2.1.force=0 2.1.r=1 2.1.a=0 "
                + "2.1.b=1", x -> x.spread(2, 0, 5));
    }

    private static void p9Ranges() {
        for (int n = 1; n <= 32; n++) {
            for (int hits = 0; hits <= n; hits++) {
                PolyDrums x = withTracks(n, 3);
                int last = -1;
                for (int s = 0; s < n; s++) {
                    x.set(0, s, 100, 4);
                    last = s * hits % n < hits ? s : last;
                }
                due(hits + " over " + n + ", the last", last, x.spread(0, hits, n + hits));
                int sum = 0;
                for (int s = 0; s < n; s++) {
                    int want = s * hits % n < hits ? n + hits : 0;
                    due(hits + " over " + n + ", step " + s, want, x.step(0, s, 0));
                    due(hits + " over " + n + ", strokes of " + s, 1, x.step(0, s, 1));
                    sum += want > 0 ? 1 : 0;
                }
                due(hits + " over " + n + ", how many", hits, sum);
            }
        }
    }

    private static void p10() {
        sentence("Moves all steps of a track (with all they have) on by some places; what would be "
                + "beyond the last one comes to the first ones.");
        dueChange("by 1", 3, "1.0.force=59 1.0.r=2 1.0.b=5 1.1.force=45 1.1.r=3 1.1.a=1 "
                + "1.1.b=3 1.2.force=52 1.2.r=4 1.2.a=2 1.2.b=4", x -> x.rotate(1, 1));
        dueChange("by 0", 3, "", x -> x.rotate(1, 0));
        dueChange("by a round", 3, "", x -> x.rotate(1, 3));
    }

    private static void p10Ranges() {
        for (int n = 1; n <= 32; n++) {
            for (int places = 0; places <= 31; places++) {
                PolyDrums x = numbered(n);
                due(n + " steps by " + places, n - 1, x.rotate(0, places));
                for (int s = 0; s < n; s++) {
                    due(n + " steps by " + places + ", step " + s, stepNumbered(s),
                            wholeStep(x, (s + places) % n));
                }
            }
        }
    }

    /** A track whose steps have other numbers each; step 0 is without a force. */
    private static PolyDrums numbered(int n) {
        PolyDrums x = withTracks(n, 2);
        for (int s = 0; s < n; s++) {
            x.set(0, s, s * 3, s % 4 + 1);
            x.setTurn(0, s, s % 3, s % 5 + 3);
        }
        return x;
    }

    private static String stepNumbered(int s) {
        return s * 3 + " " + (s % 4 + 1) + " " + s % 3 + " " + (s % 5 + 3);
    }

    private static String wholeStep(PolyDrums x, int s) {
        return x.step(0, s, 0) + " " + x.step(0, s, 1) + " " + x.step(0, s, 2) + " "
                + x.step(0, s, 3);
    }

    private static void p11() {
        sentence("Changes the number of steps of a track. If there are more than before, the steps "
                + "behind the old ones are copies of them, from step 0 on, again and again.");
        dueChange("to 5", 3, "1.n=5 1.3.force=45 1.3.r=3 1.3.a=1 1.3.b=3 1.4.force=52 1.4.r=4 "
                + "1.4.a=2 1.4.b=4", x -> x.stretch(1, 5));
        dueChange("to 2", 3, "1.n=2 no 1.2.force no 1.2.r no 1.2.a no 1.2.b",
                x -> x.stretch(1, 2));
        dueChange("to as many", 3, "", x -> x.stretch(1, 3));
    }

    private static void p11Ranges() {
        for (int n = 1; n <= 32; n++) {
            for (int more = 1; more <= 32; more++) {
                PolyDrums x = numbered(n);
                due(n + " to " + more, n, x.stretch(0, more));
                due(n + " to " + more + ", steps", more, x.track(0, 0));
                for (int s = 0; s < more; s++) {
                    due(n + " to " + more + ", step " + s, stepNumbered(s % n), wholeStep(x, s));
                }
            }
        }
    }

    private static void p12() {
        sentence("Taps a track: the step that is nearest to a tick gets a force.");
        // Step 1 of track 0 begins at tick 6, its delay is 1; a round are 24 ticks.
        dueChange("at step 1", 1, "0.1.force=99", x -> x.tap(0, 24 * 100 + 7, 99));
        dueChange("at the last step", 3, "0.3.force=99", x -> x.tap(0, 19, 99));
        dueChange("nearer to the next round", 0, "0.0.force=99", x -> x.tap(0, 22, 99));
        dueChange("with the force that it has", 0, "", x -> x.tap(0, 0, 17));
    }

    private static void p12Ranges() {
        sentence("For p = tick % (n * d) the distance of step s is the difference of p and s * d "
                + "and its delay together; that of step 0 is the smaller one of this, and of the "
                + "difference of p and n * d. Of several steps it is the one with the smallest "
                + "number.");
        for (int n = 1; n <= 6; n++) {
            for (int d = 1; d <= 9; d++) {
                for (int swing = 0; swing < d; swing++) {
                    PolyDrums x = withTracks(n, d);
                    x.tune(0, swing, 10, 0);
                    for (int tick = 0; tick < 2 * n * d; tick++) {
                        int want = nearest(n, d, swing, tick % (n * d));
                        due(n + " steps of " + d + ", swing " + swing + ", tick " + tick, want,
                                x.tap(0, tick, tick + 1));
                        due("its force", tick + 1, x.step(0, want, 0));
                    }
                }
            }
        }
    }

    private static int nearest(int n, int d, int swing, int p) {
        int nearest = -1;
        int least = Integer.MAX_VALUE;
        for (int s = n - 1; s >= 0; s--) {
            int distance = Math.abs(p - (s * d + (s % 2 == 1 ? swing : 0)));
            if (s == 0) {
                distance = Math.min(distance, n * d - p);
            }
            if (distance <= least) {
                least = distance;
                nearest = s;
            }
        }
        return nearest;
    }

    private static void p13() {
        sentence("Returns the number of tracks.");
        dueChange("three", 3, "", x -> x.tracks());
        PolyDrums x = new PolyDrums();
        for (int k = 0; k < 8; k++) {
            due("of " + k, k, x.tracks());
            x.addTrack(1 + k, 9);
        }
        due("of 8", 8, x.tracks());
    }

    // ---- promises: sections

    private static void p14() {
        sentence("Adds a section behind the last one. length: its length; set: its set of tracks; "
                + "isNew: whether it begins anew; otherwise it goes on");
        PolyDrums x = sample();
        Map<String, Integer> before = told(x);
        due("goes on", 70, x.addSection(11, 3, false));
        due("digest", digestOf(97, before, 40, 5, 0, 30, 7, 1, 11, 3, 0), x.digest());
        due("anew", 81, x.addSection(1, 255, true));
        due("digest", digestOf(97, before, 40, 5, 0, 30, 7, 1, 11, 3, 0, 1, 255, 1), x.digest());
        due("tracks", "", changes(before, told(x)));
        due("length", 82, x.length());
        due("the sections", "0 1 2 3", x.sectionAt(0) + " " + x.sectionAt(69) + " "
                + x.sectionAt(70) + " " + x.sectionAt(81));
    }

    private static void p15() {
        sentence("Takes the last section away.");
        PolyDrums x = sample();
        Map<String, Integer> before = told(x);
        due("one is left", 1, x.dropSection());
        due("digest", digestOf(97, before, 40, 5, 0), x.digest());
        due("the first one is as it was", "40 0 -1", x.length() + " " + x.sectionAt(39) + " "
                + x.sectionAt(40));
        due("a new one", 40, x.addSection(2, 1, true));
        due("digest", digestOf(97, before, 40, 5, 0, 2, 1, 1), x.digest());
        due("again", 1, x.dropSection());
        due("none is left", 0, x.dropSection());
        due("digest", digestOf(97, before), x.digest());
        due("length", 0, x.length());
        due("tracks", "", changes(before, told(x)));
    }

    private static void p16() {
        sentence("Returns the number of the section at this tick, from 0; -1 if there is none.");
        dueChange("the second one", 1, "", x -> x.sectionAt(40));
        PolyDrums x = new PolyDrums();
        List<Integer> want = new ArrayList<>();
        for (int k = 0; k < 12; k++) {
            int length = k * 5 % 7 + 1;
            x.addSection(length, k, k % 2 == 0);
            for (int i = 0; i < length; i++) {
                want.add(k);
            }
        }
        for (int t = 0; t < 100; t++) {
            due("at " + t, t < want.size() ? want.get(t) : -1, x.sectionAt(t));
        }
    }

    private static void p17() {
        sentence("Returns the ticks of all sections.");
        dueChange("of two", 70, "", x -> x.length());
        PolyDrums x = new PolyDrums();
        int sum = 0;
        for (int k = 1; k <= 12; k++) {
            x.addSection(k * 400, 0, false);
            sum += k * 400;
            due("of " + k, sum, x.length());
        }
    }

    // ---- promises: what sounds

    private static void p18() {
        sentence("Returns the loudness of the hit that it makes at this tick; 0 if it makes none.");
        dueChange("a hit", 66, "", x -> x.loudness(2, 54));
        for (int k = 0; k < 3; k++) {
            PolyDrums x = played();
            for (int t = 0; t < 200; t++) {
                boolean isHit = (x.hits(t) >> k & 1) == 1;
                int accent = t % 6 == 0 ? 50 : 0;
                due("track " + k + " at " + t, isHit ? 60 + 10 * k + accent / 4 : 0,
                        x.loudness(k, t));
            }
        }
    }

    /** Three tracks with the forces 60, 70 and 80, and an accent that strikes every 6 ticks. */
    private static PolyDrums played() {
        PolyDrums x = withTracks(5, 2, 3, 3, 4, 4, 1, 6);
        for (int k = 0; k < 3; k++) {
            x.spread(k, 2, 60 + 10 * k);
        }
        x.set(3, 0, 50, 1);
        x.turn(3, 2, true);
        return x;
    }

    private static int hitsOfPlayed(int tick) {
        // Steps 0 and 3 of 5, 0 and 2 of 3, 0 and 2 of 4.
        int p = tick % 10;
        int set = p == 0 || p == 6 ? 1 : 0;
        p = tick % 9;
        set += p == 0 || p == 6 ? 2 : 0;
        p = tick % 16;
        return set + (p == 0 || p == 8 ? 4 : 0);
    }

    private static void p19() {
        sentence("Returns the set of the tracks that make hits at this tick.");
        dueChange("one", 4, "", x -> x.hits(54));
        PolyDrums x = played();
        for (int t = 0; t < 450; t++) {
            due("at " + t, hitsOfPlayed(t), x.hits(t));
        }
    }

    private static void p20() {
        sentence("Returns the set of the tracks that sound at this tick.");
        dueChange("one", 4, "", x -> x.sounding(54));
        PolyDrums x = played();
        for (int k = 0; k < 3; k++) {
            x.tune(k, 0, k + 2, 0);
        }
        for (int t = 0; t < 450; t++) {
            int want = 0;
            for (int k = 0; k < 3; k++) {
                for (int age = 0; age < k + 2 && age <= t; age++) {
                    want |= hitsOfPlayed(t - age) & 1 << k;
                }
            }
            due("at " + t, want, x.sounding(t));
        }
    }

    private static void p21() {
        sentence("Returns the first tick from this one on, but at most 3000 ticks behind it and at "
                + "most 99999, at which it makes a hit;");
        dueChange("a hit", 54, "", x -> x.next(2, 48));
        for (int from : new int[] {0, 5000, LAST_TICK - 160}) {
            PolyDrums x = played();
            for (int k = 0; k < 3; k++) {
                for (int t = from; t < from + 150; t++) {
                    int want = t;
                    while ((hitsOfPlayed(want) >> k & 1) == 0) {
                        want++;
                    }
                    due("track " + k + " from " + t, want, x.next(k, t));
                }
            }
        }
    }

    private static int hitsBetween(int set, int from, int to) {
        int sum = 0;
        for (int t = from; t < to; t++) {
            sum += (hitsOfPlayed(t) & set) == set ? 1 : 0;
        }
        return sum;
    }

    private static void p22() {
        sentence("Returns how many hits it makes from the first tick on, ahead of the second one.");
        // At 54, 55 and 57; the one at 59 is not ahead of 59.
        dueChange("three hits", 3, "", x -> x.count(2, 40, 59));
        for (int k = 0; k < 3; k++) {
            PolyDrums x = played();
            for (int from = 0; from < 20; from++) {
                for (int to = from; to < from + 20; to++) {
                    due("track " + k + " from " + from + " to " + to,
                            hitsBetween(1 << k, from, to), x.count(k, from, to));
                }
            }
            due("track " + k + ", many", hitsBetween(1 << k, 96000, 99000),
                    x.count(k, 96000, 99000));
        }
    }

    private static void p23() {
        sentence("Returns at how many ticks from the first one on, ahead of the second one, both "
                + "make hits.");
        dueChange("with itself", 3, "", x -> x.together(2, 2, 40, 59));
        PolyDrums x = played();
        for (int a = 0; a < 3; a++) {
            for (int b = 0; b < 3; b++) {
                for (int i = 0; i < 40; i++) {
                    int to = 7 + 19 * i;
                    due(a + " and " + b + " from 7 to " + to, hitsBetween(1 << a | 1 << b, 7, to),
                            x.together(a, b, 7, to));
                }
            }
        }
    }

    private static void p24() {
        sentence("Returns after how many rounds its steps come round again: the least number that "
                + "can be divided by b of all its steps with a force greater than 0 (1 if there "
                + "are none).");
        dueChange("b of 3, 4, 5 and 6", 60, "", x -> x.rounds(0));
        for (int set = 0; set < 256; set++) {
            PolyDrums x = withTracks(8, 1);
            for (int b = 1; b <= 8; b++) {
                x.setTurn(0, b - 1, b - 1, b);
                x.set(0, b - 1, set >> b - 1 & 1, 1);
            }
            int want = 1;
            while (!isDivided(want, set)) {
                want++;
            }
            due("set " + set, want, x.rounds(0));
        }
    }

    private static boolean isDivided(int number, int set) {
        for (int b = 1; b <= 8; b++) {
            if ((set >> b - 1 & 1) == 1 && number % b != 0) {
                return false;
            }
        }
        return true;
    }

    private static void p25() {
        sentence("Returns the least number of ticks that can be divided by n * d * rounds() of all "
                + "tracks (1 without tracks);");
        // 24 ticks, 60 rounds; 15 ticks, 60 rounds; 14 ticks, 12 rounds.
        dueChange("1440, 900 and 168", 50400L, "", x -> x.period());
        for (int n = 1; n <= 32; n++) {
            for (int d = 1; d <= 48; d++) {
                PolyDrums x = withTracks(n, d, 12, 10);
                x.set(0, 0, 1, 1);
                x.setTurn(0, 0, 0, n % 8 + 1);
                int own = n * d * (n % 8 + 1);
                long want = own;
                while (want % 120 != 0) {
                    want += own;
                }
                due(n + " steps of " + d, want, x.period());
            }
        }
    }

    private static void p26() {
        sentence("Returns the sum over all its steps with a force greater than 0 of the number of "
                + "strokes divided by b (each one as a double, added in ascending order of the "
                + "steps).");
        dueChange("of four steps", 2.0 / 3.0 + 3.0 / 4.0 + 4.0 / 5.0 + 2.0 / 6.0, "",
                x -> x.density(0));
        for (int n = 1; n <= 32; n++) {
            PolyDrums x = numbered(n);
            double want = 0.0;
            for (int s = 1; s < n; s++) {
                want = want + (double) (s % 4 + 1) / (double) (s % 5 + 3);
            }
            due(n + " steps", want, x.density(0));
        }
    }

    private static void p27() {
        sentence("Sets the speed. beats: the beats in a minute");
        PolyDrums x = sample();
        Map<String, Integer> before = told(x);
        int last = 97;
        for (int beats = 30; beats <= 300; beats++) {
            due("before " + beats, last, x.setSpeed(beats));
            last = beats;
        }
        due("nothing else", "", changes(before, told(x)));
        due("digest", digestOf(300, before, 40, 5, 0, 30, 7, 1), x.digest());
    }

    private static void p28() {
        sentence("Returns its time in seconds, with 24 ticks a beat: the tick, times 60, divided "
                + "by the beats, then divided by 24, as doubles.");
        dueChange("at 97 beats", 70.0 * 60.0 / 97.0 / 24.0, "", x -> x.seconds(70));
        for (int beats = 30; beats <= 300; beats++) {
            PolyDrums x = new PolyDrums();
            x.setSpeed(beats);
            for (int tick = beats % 7; tick <= LAST_TICK; tick += 1237) {
                double want = tick;
                want = want * 60.0;
                want = want / beats;
                want = want / 24.0;
                due("tick " + tick + " at " + beats, want, x.seconds(tick));
            }
        }
    }

    private static void p29() {
        sentence("A number d starts with 313; for each of the following numbers x, d becomes "
                + "d * 31 + x, which wraps around as a 64-bit integer: the speed; the number of "
                + "tracks, and for each of them what track() tells, in its order, and for each of "
                + "its steps its force, its number of strokes, a and b; the number of sections, "
                + "and for each of them its length, its set, and 1 if it begins anew, else 0.");
        PolyDrums x = sample();
        long d = 313;
        int[] numbers = {97, 3,
            4, 6, 1, 20, 1, 0, 0, 0, 17, 2, 1, 3, 24, 3, 2, 4, 31, 4, 1, 5, 38, 2, 2, 6,
            3, 5, 2, 21, 2, 0, 0, 0, 45, 3, 1, 3, 52, 4, 2, 4, 59, 2, 1, 5,
            2, 7, 3, 22, 3, 0, 1, 0, 66, 4, 1, 3, 73, 2, 2, 4,
            2, 40, 5, 0, 30, 7, 1};
        for (int number : numbers) {
            d = d * 31 + number;
        }
        due("of a sample", d, x.digest());
        dueChange("nothing is changed", d, "", y -> y.digest());
    }

    // ---- Not promised

    private static void notPromised() {
        sentence("Nothing is promised beyond the answers and state changes described above");
        PolyDrums one = sample();
        PolyDrums other = sample();
        long before = one.digest();
        other.addTrack(1, 1);
        other.spread(0, 1, 1);
        other.rotate(1, 1);
        other.dropSection();
        other.setSpeed(300);
        due("another object is not changed", before, one.digest());
        due("objects with the same calls answer the same", before, sample().digest());
    }
}
