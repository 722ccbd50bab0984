import java.math.BigInteger;
import java.util.ArrayList;
import java.util.Arrays;
import java.util.List;
import java.util.Random;

/**
 * Plays long runs of calls, good and bad ones, on PolyDrums and on a model that answers in another
 * way: it writes all hits of all ticks down, round after round, and looks the answers up there.
 * The seeds are fixed, so each run is always the same.
 */
public final class ModelTest {
    private static final int RUNS = 400;
    private static final int CALLS = 512;
    private static final int TICKS = 100000;
    private static final int MOST_SHOWN = 20;

    public static void main(String[] args) {
        int wrong = 0;
        for (int run = 0; run < RUNS && wrong < MOST_SHOWN; run++) {
            wrong += play(run);
        }
        System.out.println("ModelTest: " + RUNS + " runs of " + CALLS + " calls, " + wrong + " wrong");
        if (wrong != 0) {
            System.exit(1);
        }
    }

    /** Half of the calls is digest(), so that every change and every non-change is seen at once. */
    private static int play(int run) {
        Random random = new Random(run);
        PolyDrums real = new PolyDrums();
        Model model = new Model();
        for (int i = 0; i < CALLS / 2; i++) {
            Call call = new Call(random, model, run % 4);
            String got = call.onReal(real);
            String want = call.onModel(model);
            if (!got.equals(want)) {
                System.out.println("run " + run + ", call " + i + ": " + call
                        + " answered " + got + ", due is " + want);
                return 1;
            }
            if (real.digest() != model.digest()) {
                System.out.println("run " + run + ", call " + i + ": digest behind " + call);
                return 1;
            }
        }
        return 0;
    }

    /** One call with its arguments; each argument is mostly right, sometimes at or beyond an edge. */
    private static final class Call {
        private static final String[] NAMES = {"addTrack", "set", "setTurn", "step", "track", "tune",
            "turn", "spread", "rotate", "stretch", "tap", "tracks", "addSection", "dropSection",
            "sectionAt", "length", "loudness", "hits", "sounding", "next", "count", "together",
            "rounds", "period", "density", "setSpeed", "seconds",
            "set", "set", "spread", "sounding", "sounding", "loudness", "setTurn"};
        private final String name;
        private final int[] x = new int[4];
        private final boolean is;

        Call(Random random, Model m, int kind) {
            boolean isEarly = m.tracks.size() < 2 && random.nextBoolean();
            String chosen = isEarly ? "addTrack" : NAMES[random.nextInt(NAMES.length)];
            // Runs of kind 0 have no sections, others seldom turn tracks off: most should sound.
            if (chosen.equals("addSection") && kind == 0) {
                chosen = "loudness";
            }
            if (chosen.equals("turn") && random.nextInt(3) > 0) {
                chosen = "spread";
            }
            name = chosen;
            is = random.nextBoolean();
            choose(random, m, kind);
        }

        private void choose(Random r, Model m, int kind) {
            int track = r.nextInt(40) == 0 ? m.tracks.size() : r.nextInt(Math.max(1, m.tracks.size()));
            Track t = track < m.tracks.size() ? m.tracks.get(track) : new Track(4, 4);
            int step = near(r, 0, t.steps.size() - 1);
            int top = m.sections.isEmpty() ? (r.nextInt(3) == 0 ? TICKS - 1 : 2000)
                    : Math.min(TICKS - 1, m.songLength() + 250);
            int tick = near(r, 0, r.nextInt(20) == 0 ? TICKS - 1 : top);
            switch (name) {
                case "addTrack":
                    put(near(r, 1, kind == 1 ? 32 : 8), near(r, 1, kind == 2 ? 6 : 48));
                    break;
                case "set": put(track, step, near(r, 0, 127), near(r, 1, 4)); break;
                case "setTurn":
                    int b = near(r, 1, r.nextBoolean() ? 8 : 2);
                    put(track, step, near(r, 0, b - 1), b);
                    break;
                case "step": put(track, step, near(r, 0, 4)); break;
                case "track": put(track, near(r, 0, 7)); break;
                case "tune":
                    put(track, near(r, 0, t.stepTicks - 1), near(r, 1, 200), near(r, 0, 3));
                    break;
                case "turn": put(track, near(r, 0, 2)); break;
                case "spread": put(track, near(r, 0, t.steps.size()), near(r, 1, 127)); break;
                case "rotate": put(track, near(r, 0, 31)); break;
                case "stretch": put(track, near(r, 1, 32)); break;
                case "tap": put(track, tick, near(r, 1, 127)); break;
                case "addSection":
                    put(near(r, 1, r.nextInt(3) == 0 ? 5000 : 400), near(r, 0, 255));
                    break;
                case "sectionAt": case "hits": case "sounding": case "seconds": put(tick); break;
                case "loudness": case "next": put(track, hitNear(r, m, track, tick)); break;
                case "count": put(track, tick, tick + near(r, 0, 3000)); break;
                case "together":
                    put(track, near(r, 0, m.tracks.size() - 1), tick, tick + near(r, 0, 3000));
                    break;
                case "rounds": case "density": put(track); break;
                case "setSpeed": put(near(r, 30, 300)); break;
                default: break;
            }
        }

        private void put(int... values) {
            System.arraycopy(values, 0, x, 0, values.length);
        }

        /** Random ticks mostly have no hit: half of the time the next one is taken. */
        private static int hitNear(Random r, Model m, int track, int tick) {
            if (r.nextBoolean() || track >= m.tracks.size() || tick < 0 || tick >= TICKS) {
                return tick;
            }
            long next = m.next(track, tick);
            return next < 0 ? tick : (int) next;
        }

        private static int near(Random r, int least, int most) {
            switch (r.nextInt(120)) {
                case 0: return least - 1;
                case 1: return most + 1;
                case 2: return r.nextBoolean() ? Integer.MIN_VALUE : Integer.MAX_VALUE;
                case 3: return r.nextInt();
                case 4: case 5: case 6: case 7: return least;
                case 8: case 9: case 10: case 11: return most;
                default:
                    int places = most - least + 1;
                    return places <= 0 ? least : least + r.nextInt(places);
            }
        }

        private String onReal(PolyDrums d) {
            try {
                switch (name) {
                    case "addTrack": return "" + d.addTrack(x[0], x[1]);
                    case "set": return "" + d.set(x[0], x[1], x[2], x[3]);
                    case "setTurn": return "" + d.setTurn(x[0], x[1], x[2], x[3]);
                    case "step": return "" + d.step(x[0], x[1], x[2]);
                    case "track": return "" + d.track(x[0], x[1]);
                    case "tune": return "" + d.tune(x[0], x[1], x[2], x[3]);
                    case "turn": return "" + d.turn(x[0], x[1], is);
                    case "spread": return "" + d.spread(x[0], x[1], x[2]);
                    case "rotate": return "" + d.rotate(x[0], x[1]);
                    case "stretch": return "" + d.stretch(x[0], x[1]);
                    case "tap": return "" + d.tap(x[0], x[1], x[2]);
                    case "tracks": return "" + d.tracks();
                    case "addSection": return "" + d.addSection(x[0], x[1], is);
                    case "dropSection": return "" + d.dropSection();
                    case "sectionAt": return "" + d.sectionAt(x[0]);
                    case "length": return "" + d.length();
                    case "loudness": return "" + d.loudness(x[0], x[1]);
                    case "hits": return "" + d.hits(x[0]);
                    case "sounding": return "" + d.sounding(x[0]);
                    case "next": return "" + d.next(x[0], x[1]);
                    case "count": return "" + d.count(x[0], x[1], x[2]);
                    case "together": return "" + d.together(x[0], x[1], x[2], x[3]);
                    case "rounds": return "" + d.rounds(x[0]);
                    case "period": return "" + d.period();
                    case "density": return "" + d.density(x[0]);
                    case "setSpeed": return "" + d.setSpeed(x[0]);
                    default: return "" + d.seconds(x[0]);
                }
            } catch (RuntimeException e) {
                return e.getClass().getName();
            }
        }

        private String onModel(Model m) {
            try {
                switch (name) {
                    case "addTrack": return "" + m.addTrack(x[0], x[1]);
                    case "set": return "" + m.set(x[0], x[1], x[2], x[3]);
                    case "setTurn": return "" + m.setTurn(x[0], x[1], x[2], x[3]);
                    case "step": return "" + m.step(x[0], x[1], x[2]);
                    case "track": return "" + m.track(x[0], x[1]);
                    case "tune": return "" + m.tune(x[0], x[1], x[2], x[3]);
                    case "turn": return "" + m.turn(x[0], x[1], is);
                    case "spread": return "" + m.spread(x[0], x[1], x[2]);
                    case "rotate": return "" + m.rotate(x[0], x[1]);
                    case "stretch": return "" + m.stretch(x[0], x[1]);
                    case "tap": return "" + m.tap(x[0], x[1], x[2]);
                    case "tracks": return "" + m.tracks.size();
                    case "addSection": return "" + m.addSection(x[0], x[1], is);
                    case "dropSection": return "" + m.dropSection();
                    case "sectionAt": return "" + m.sectionAt(x[0]);
                    case "length": return "" + m.songLength();
                    case "loudness": return "" + m.loudness(x[0], x[1]);
                    case "hits": return "" + m.hits(x[0]);
                    case "sounding": return "" + m.sounding(x[0]);
                    case "next": return "" + m.next(x[0], x[1]);
                    case "count": return "" + m.together(x[0], x[0], x[1], x[2]);
                    case "together": return "" + m.together(x[0], x[1], x[2], x[3]);
                    case "rounds": return "" + m.rounds(x[0]);
                    case "period": return "" + m.period();
                    case "density": return "" + m.density(x[0]);
                    case "setSpeed": return "" + m.setSpeed(x[0]);
                    default: return "" + m.seconds(x[0]);
                }
            } catch (RuntimeException e) {
                return e.getClass().getName();
            }
        }

        @Override
        public String toString() {
            return name + "(" + x[0] + ", " + x[1] + ", " + x[2] + ", " + x[3] + ", " + is + ")";
        }
    }

    private static final class Step {
        int force = 0;
        int strokes = 1;
        int a = 0;
        int b = 1;

        Step copy() {
            Step s = new Step();
            s.force = force;
            s.strokes = strokes;
            s.a = a;
            s.b = b;
            return s;
        }
    }

    private static final class Track {
        final List<Step> steps = new ArrayList<>();
        final int stepTicks;
        int swing = 0;
        int ring = 10;
        int group = 0;
        final boolean[] is = new boolean[3];

        Track(int n, int d) {
            for (int i = 0; i < n; i++) {
                steps.add(new Step());
            }
            stepTicks = d;
        }

        int[] told() {
            return new int[] {steps.size(), stepTicks, swing, ring, group,
                is[0] ? 1 : 0, is[1] ? 1 : 0, is[2] ? 1 : 0};
        }
    }

    private static final class Section {
        final int begin;
        final int end;
        final int set;
        final boolean isNew;

        Section(int begin, int end, int set, boolean isNew) {
            this.begin = begin;
            this.end = end;
            this.set = set;
            this.isNew = isNew;
        }
    }

    private static final class Model {
        final List<Track> tracks = new ArrayList<>();
        final List<Section> sections = new ArrayList<>();
        int beats = 120;
        // The force of each track's strike at each tick, written anew where it is asked for.
        private final int[][] struck = new int[8][TICKS];

        private static void need(boolean isRight) {
            if (!isRight) {
                throw new IllegalArgumentException();
            }
        }

        private static void needTick(int tick) {
            need(0 <= tick && tick < TICKS);
        }

        private Track at(int k) {
            if (k < 0 || k >= tracks.size()) {
                throw new IndexOutOfBoundsException();
            }
            return tracks.get(k);
        }

        private Step at(int k, int s) {
            Track t = at(k);
            if (s < 0 || s >= t.steps.size()) {
                throw new IndexOutOfBoundsException();
            }
            return t.steps.get(s);
        }

        int addTrack(int n, int d) {
            need(1 <= n && n <= 32 && 1 <= d && d <= 48);
            if (tracks.size() == 8) {
                throw new IllegalStateException();
            }
            tracks.add(new Track(n, d));
            return tracks.size() - 1;
        }

        int set(int k, int s, int force, int r) {
            Step step = at(k, s);
            need(0 <= force && force <= 127 && 1 <= r && r <= 4);
            int before = step.force;
            step.force = force;
            step.strokes = r;
            return before;
        }

        int setTurn(int k, int s, int a, int b) {
            Step step = at(k, s);
            need(1 <= b && b <= 8 && 0 <= a && a < b);
            int before = step.b;
            step.a = a;
            step.b = b;
            return before;
        }

        int step(int k, int s, int what) {
            Step step = at(k, s);
            int delay = s % 2 * at(k).swing;
            int[] told = {step.force, step.strokes, step.a, step.b, delay};
            if (what < 0 || what > 4) {
                throw new IndexOutOfBoundsException();
            }
            return told[what];
        }

        int track(int k, int what) {
            int[] told = at(k).told();
            if (what < 0 || what > 7) {
                throw new IndexOutOfBoundsException();
            }
            return told[what];
        }

        int tune(int k, int swing, int ring, int group) {
            Track t = at(k);
            need(0 <= swing && swing < t.stepTicks && 1 <= ring && ring <= 200);
            need(0 <= group && group <= 3);
            int before = t.swing;
            t.swing = swing;
            t.ring = ring;
            t.group = group;
            return before;
        }

        boolean turn(int k, int what, boolean isOn) {
            Track t = at(k);
            if (what < 0 || what > 2) {
                throw new IndexOutOfBoundsException();
            }
            boolean before = t.is[what];
            t.is[what] = isOn;
            return before;
        }

        int spread(int k, int hits, int force) {
            Track t = at(k);
            int n = t.steps.size();
            need(0 <= hits && hits <= n && 1 <= force && force <= 127);
            int last = -1;
            for (int s = 0; s < n; s++) {
                Step step = new Step();
                if (s * hits % n < hits) {
                    step.force = force;
                    last = s;
                }
                t.steps.set(s, step);
            }
            return last;
        }

        int rotate(int k, int places) {
            Track t = at(k);
            need(0 <= places && places <= 31);
            for (int i = 0; i < places; i++) {
                t.steps.add(0, t.steps.remove(t.steps.size() - 1));
            }
            return (int) t.steps.stream().filter(s -> s.force > 0).count();
        }

        int stretch(int k, int n) {
            Track t = at(k);
            need(1 <= n && n <= 32);
            int before = t.steps.size();
            List<Step> old = new ArrayList<>(t.steps);
            t.steps.clear();
            for (int i = 0; i < n; i++) {
                t.steps.add(old.get(i % before).copy());
            }
            return before;
        }

        int tap(int k, int tick, int force) {
            Track t = at(k);
            needTick(tick);
            need(1 <= force && force <= 127);
            int round = t.steps.size() * t.stepTicks;
            int p = tick % round;
            int[] distance = new int[t.steps.size()];
            for (int s = 0; s < distance.length; s++) {
                distance[s] = Math.abs(p - s * t.stepTicks - step(k, s, 4));
            }
            distance[0] = Math.min(distance[0], round - p);
            int best = 0;
            for (int s = distance.length - 1; s >= 0; s--) {
                best = distance[s] <= distance[best] ? s : best;
            }
            t.steps.get(best).force = force;
            return best;
        }

        int addSection(int length, int set, boolean isNew) {
            need(1 <= length && length <= 5000 && 0 <= set && set <= 255);
            if (sections.size() == 12) {
                throw new IllegalStateException();
            }
            int begin = songLength();
            sections.add(new Section(begin, begin + length, set, isNew));
            return begin;
        }

        int dropSection() {
            if (sections.isEmpty()) {
                throw new IllegalStateException();
            }
            sections.remove(sections.size() - 1);
            return sections.size();
        }

        int sectionAt(int tick) {
            needTick(tick);
            for (Section s : sections) {
                if (s.begin <= tick && tick < s.end) {
                    return sections.indexOf(s);
                }
            }
            return -1;
        }

        int songLength() {
            return sections.isEmpty() ? 0 : sections.get(sections.size() - 1).end;
        }

        /** Writes down all strikes of the ticks from one on, ahead of another. */
        private void write(int from, int to) {
            boolean isAnySolo = tracks.stream().anyMatch(t -> t.is[1]);
            for (int k = 0; k < tracks.size(); k++) {
                Arrays.fill(struck[k], from, to, 0);
                Track t = tracks.get(k);
                if (t.is[0] || isAnySolo && !t.is[1]) {
                    continue;
                }
                if (sections.isEmpty()) {
                    write(k, from, to, 0);
                }
                for (Section s : sections) {
                    if ((s.set & 1 << k) != 0) {
                        write(k, Math.max(from, s.begin), Math.min(to, s.end), s.isNew ? s.begin : 0);
                    }
                }
            }
        }

        private void write(int k, int from, int to, int zero) {
            Track t = tracks.get(k);
            int round = t.steps.size() * t.stepTicks;
            for (int c = 0; zero + c * round < to; c++) {
                if (zero + (c + 1) * round <= from) {
                    continue;
                }
                for (int s = 0; s < t.steps.size(); s++) {
                    Step step = t.steps.get(s);
                    int delay = s % 2 * t.swing;
                    for (int i = 0; i < step.strokes && c % step.b == step.a; i++) {
                        int tick = zero + c * round + s * t.stepTicks + delay
                                + i * (t.stepTicks - delay) / step.strokes;
                        if (tick >= from && tick < to) {
                            struck[k][tick] = step.force;
                        }
                    }
                }
            }
        }

        private boolean isHit(int k, int tick) {
            return !tracks.get(k).is[2] && struck[k][tick] > 0;
        }

        int loudness(int k, int tick) {
            at(k);
            needTick(tick);
            write(tick, tick + 1);
            int accents = 0;
            for (int j = 0; j < tracks.size(); j++) {
                accents += tracks.get(j).is[2] ? struck[j][tick] : 0;
            }
            return isHit(k, tick) ? Math.min(127, struck[k][tick] + accents / 4) : 0;
        }

        int hits(int tick) {
            needTick(tick);
            write(tick, tick + 1);
            int set = 0;
            for (int k = 0; k < tracks.size(); k++) {
                set += isHit(k, tick) ? 1 << k : 0;
            }
            return set;
        }

        /** Lets all sounds go on from tick to tick, and ends them one by one. */
        int sounding(int tick) {
            needTick(tick);
            int from = Math.max(0, tick - 400);
            write(from, tick + 1);
            int[] left = new int[8];
            for (int t = from; t <= tick; t++) {
                for (int k = 0; k < tracks.size(); k++) {
                    left[k] = Math.max(0, left[k] - 1);
                }
                for (int k = 0; k < tracks.size(); k++) {
                    if (!isHit(k, t)) {
                        continue;
                    }
                    for (int j = 0; j < tracks.size(); j++) {
                        int group = tracks.get(k).group;
                        left[j] = group != 0 && tracks.get(j).group == group ? 0 : left[j];
                    }
                    left[k] = tracks.get(k).ring;
                }
            }
            int set = 0;
            for (int k = 0; k < tracks.size(); k++) {
                set += left[k] > 0 ? 1 << k : 0;
            }
            return set;
        }

        int next(int k, int tick) {
            at(k);
            needTick(tick);
            int end = Math.min(TICKS, tick + 3001);
            write(tick, end);
            for (int t = tick; t < end; t++) {
                if (isHit(k, t)) {
                    return t;
                }
            }
            return -1;
        }

        int together(int a, int b, int from, int to) {
            at(a);
            at(b);
            needTick(from);
            needTick(to);
            need(from <= to && to <= from + 3000);
            write(from, to);
            int sum = 0;
            for (int t = from; t < to; t++) {
                sum += isHit(a, t) && isHit(b, t) ? 1 : 0;
            }
            return sum;
        }

        int rounds(int k) {
            Track t = at(k);
            for (int c = 1;; c++) {
                int rounds = c;
                if (t.steps.stream().allMatch(s -> s.force == 0 || rounds % s.b == 0)) {
                    return c;
                }
            }
        }

        long period() {
            BigInteger all = BigInteger.ONE;
            for (int k = 0; k < tracks.size(); k++) {
                Track t = tracks.get(k);
                long own = (long) t.steps.size() * t.stepTicks * rounds(k);
                BigInteger x = BigInteger.valueOf(own);
                all = all.multiply(x).divide(all.gcd(x));
            }
            return all.compareTo(BigInteger.valueOf(1000000000)) > 0 ? -1 : all.longValue();
        }

        double density(int k) {
            double sum = 0;
            for (Step s : at(k).steps) {
                sum += s.force > 0 ? (double) s.strokes / s.b : 0;
            }
            return sum;
        }

        int setSpeed(int x) {
            need(30 <= x && x <= 300);
            int before = beats;
            beats = x;
            return before;
        }

        double seconds(int tick) {
            needTick(tick);
            double time = tick;
            time = time * 60;
            time = time / beats;
            return time / 24;
        }

        long digest() {
            List<Integer> numbers = new ArrayList<>(List.of(beats, tracks.size()));
            for (Track t : tracks) {
                for (int x : t.told()) {
                    numbers.add(x);
                }
                for (Step s : t.steps) {
                    numbers.addAll(List.of(s.force, s.strokes, s.a, s.b));
                }
            }
            numbers.add(sections.size());
            for (Section s : sections) {
                numbers.addAll(List.of(s.end - s.begin, s.set, s.isNew ? 1 : 0));
            }
            long d = 313;
            for (int x : numbers) {
                d = d * 31 + x;
            }
            return d;
        }
    }
}
