import java.util.ArrayList;
import java.util.List;
import java.util.Random;

/**
 * Long runs of calls drawn from fixed seeds, each answer against a second reading of the document
 * that keeps a list of deeds and replays it from hour 0 for every question.
 */
public final class OracleTest {
    private static final int RUNS = 400;
    private static final int CALLS = 512;

    private static final Check check = new Check("OracleTest");

    public static void main(String[] args) {
        for (int seed = 0; seed < RUNS && !check.hasWrong(); seed++) {
            new Run(seed).go();
        }
        check.end();
    }

    /** One object and its oracle through one run of calls. */
    private static final class Run {
        final Random random;
        final WaterMeadows real = new WaterMeadows();
        final Oracle oracle = new Oracle();
        final int seed;
        final int longest;
        final int busy;
        final StringBuilder calls = new StringBuilder();

        Run(int seed) {
            this.seed = seed;
            random = new Random(seed);
            longest = seed % 3 == 0 ? 200 : seed % 3 == 1 ? 30 : 4;
            // Some runs spend their 90 deeds at once, others over all their hours.
            busy = seed % 2 == 0 ? 40 : 12;
        }

        void go() {
            if (seed % 5 != 0) {
                for (int h = 0; h < 1 + seed % 6; h++) {
                    say("hatch", in(0, 3), in(1, 200), in(1, 4));
                }
            }
            for (int i = 0; i < CALLS - 6 && !check.hasWrong(); i++) {
                int dice = random.nextInt(100);
                if (dice < busy) {
                    deed();
                } else if (dice < busy + 15) {
                    say("hours", random.nextInt(12) == 0 ? in(-1, 202) : in(1, longest), 0, 0);
                } else {
                    question();
                }
            }
        }

        int in(int least, int most) {
            return least + random.nextInt(most - least + 1);
        }

        void deed() {
            switch (random.nextInt(14)) {
                case 0: say("hatch", in(-1, 4), in(-2, 205), in(0, 5)); break;
                case 1: say("flow", random.nextInt(3) == 0 ? in(-2, 1002) : in(0, 60), 0, 0); break;
                case 2: say("flow", in(395, 405), 0, 0); break;
                case 3: say("air", in(-21, 31), 0, 0); break;
                case 4: say("air", in(-2, 6), 0, 0); break;
                case 5: say("dig", in(-1, 6), 0, 0); break;
                case 6: say("sheep", in(0, 5), in(-1, 4), in(-1, 51)); break;
                case 7: say("right", in(-1, 1001), in(-1, 24), in(0, 25)); break;
                case 8: say("right", in(0, 60), in(0, 12), in(12, 24)); break;
                default: say("open", in(-1, 6), in(-1, 5), 0); break;
            }
        }

        void question() {
            switch (random.nextInt(9)) {
                case 0: case 1: say("told", in(-1, 6), in(-1, 8), 0); break;
                case 2: case 3: say("pane", in(0, 6), in(-1, 4), in(-1, 6)); break;
                case 4: say("stream", in(-1, 7), 0, 0); break;
                case 5: say("broken", random.nextInt(3) == 0 ? -1 : in(-2, 62), in(0, 2), 0); break;
                case 6: say("farm", in(-1, 4), in(-1, 4), 0); break;
                case 7: say("without", in(-1, 6), in(-1, 6), 0); break;
                default: say("count", in(-1, 3), 0, 0); break;
            }
        }

        void say(String name, int a, int b, int c) {
            calls.append(name).append('(').append(a).append(", ").append(b).append(", ").append(c).append(") ");
            int want = oracle.answer(name, a, b, c);
            int got = ask(name, a, b, c);
            check.due(got == want ? name : "seed " + seed + ": the last of " + calls, got, want);
        }

        int ask(String name, int a, int b, int c) {
            switch (name) {
                case "hatch": return real.hatch(a, b, c);
                case "open": return real.open(a, b);
                case "flow": return real.flow(a);
                case "air": return real.air(a);
                case "dig": return real.dig(a);
                case "sheep": return real.sheep(a, b, c);
                case "right": return real.right(a, b, c);
                case "hours": return real.hours(a);
                case "told": return real.told(a, b);
                case "pane": return real.pane(a, b, c);
                case "stream": return real.stream(a);
                case "broken": return real.broken(a, b);
                case "farm": return real.farm(a, b);
                case "without": return real.without(a, b);
                case "count": return real.count(a);
                default: throw new IllegalStateException(name);
            }
        }
    }

    private record Deed(int hour, String name, int a, int b, int c) { }

    private static final class Pane {
        int grass, got, wet, drank, sheep, ate;
    }

    private static final class Hatch {
        int farm, width, open, carried, took;
        List<Pane> panes = new ArrayList<>();

        int silt() {
            return carried / 100;
        }

        int most() {
            int left = width - silt() / 10;
            return left < 0 ? 0 : left;
        }
    }

    /** The meadows after a replay of the first hours with all deeds so far. */
    private static final class World {
        final List<Hatch> hatches = new ArrayList<>();
        final List<int[]> broken = new ArrayList<>();
        final int[] turns = new int[4];
        int flow = 100, air = 5, right, from, to;
        int brought, drunk, mill, latest, rightBroken;

        void obey(Deed d, int never) {
            switch (d.name()) {
                case "hatch": addHatch(d); break;
                case "open": hatches.get(d.a()).open = d.a() == never ? 0 : d.b(); break;
                case "flow": flow = d.a(); break;
                case "air": air = d.a(); break;
                case "dig": hatches.get(d.a()).carried = 0; break;
                case "sheep": hatches.get(d.a()).panes.get(d.b()).sheep = d.c(); break;
                default: right = d.a(); from = d.b(); to = d.c(); break;
            }
        }

        private void addHatch(Deed d) {
            Hatch h = new Hatch();
            h.farm = d.a();
            h.width = d.b();
            for (int i = 0; i < d.c(); i++) {
                h.panes.add(new Pane());
            }
            hatches.add(h);
        }

        void hour(int hour) {
            int w = flow;
            brought += flow;
            int took = 0;
            int guilty = 0;
            for (int n = 0; n < hatches.size(); n++) {
                Hatch h = hatches.get(n);
                int most = h.most();
                h.took = 0;
                while (h.took < most && 4 * (h.took + 1) <= w * h.open) {
                    h.took++;
                }
                h.carried += h.took;
                w -= h.took;
                w += irrigate(h);
                if (h.took > 0) {
                    took += 1 << n;
                    if (flow <= 400 && air >= 0 && (hour / 24) % 4 != h.farm) {
                        guilty += 1 << n;
                        turns[h.farm]++;
                        broken.add(new int[] {hour, 1, n});
                    }
                }
            }
            mill += w;
            latest = w;
            int clock = hour % 24;
            if (flow <= 400 && clock >= from && clock < to && w < right) {
                rightBroken++;
                broken.add(new int[] {hour, 2, guilty == 0 ? took : guilty});
            }
            for (Hatch h : hatches) {
                for (Pane p : h.panes) {
                    grow(p, clock);
                }
            }
        }

        /** Deals the water out one by one, pane after pane; answers what comes back. */
        private int irrigate(Hatch h) {
            for (Pane p : h.panes) {
                p.got = 0;
            }
            for (int i = 0; i < h.took; i++) {
                h.panes.get(i % h.panes.size()).got++;
            }
            int back = 0;
            for (Pane p : h.panes) {
                int sip = p.got > 3 ? 3 : p.got;
                p.drank += sip;
                drunk += sip;
                back += p.got - sip;
            }
            return back;
        }

        private void grow(Pane p, int clock) {
            boolean wet = p.got >= 1;
            int warmth = air;
            if (wet) {
                p.wet++;
                if (warmth < 4) {
                    warmth = 4;
                }
            }
            if (warmth > 2) {
                p.grass += warmth - 2;
            }
            if (!wet && air < 0 && p.grass > 0) {
                p.grass--;
            }
            if (p.grass > 5000) {
                p.grass = 5000;
            }
            if (clock >= 6 && clock <= 17) {
                for (int s = 0; s < p.sheep && p.grass > 0; s++) {
                    p.grass--;
                    p.ate++;
                }
            }
        }

        int farm(int farm, int what) {
            int sum = 0;
            for (Hatch h : hatches) {
                for (Pane p : h.panes) {
                    if (h.farm == farm) {
                        sum += what == 0 ? p.grass : what == 1 ? p.ate : p.wet;
                    }
                }
            }
            return sum;
        }
    }

    private static final class Oracle {
        final List<Deed> deeds = new ArrayList<>();
        final World[] seen = new World[7];
        int hour;

        /** never is the hatch that is left shut, -1 for none. */
        World world(int never) {
            if (seen[never + 1] == null) {
                World w = new World();
                int next = 0;
                for (int h = 0; h <= hour; h++) {
                    while (next < deeds.size() && deeds.get(next).hour() == h) {
                        w.obey(deeds.get(next), never);
                        next++;
                    }
                    if (h < hour) {
                        w.hour(h);
                    }
                }
                seen[never + 1] = w;
            }
            return seen[never + 1];
        }

        void forget() {
            java.util.Arrays.fill(seen, null);
        }

        int answer(String name, int a, int b, int c) {
            switch (name) {
                case "hours": return hours(a);
                case "told": return told(a, b);
                case "pane": return pane(a, b, c);
                case "stream": return stream(a);
                case "broken": return broken(a, b);
                case "farm": return farm(a, b);
                case "without": return without(a, b);
                case "count": return count(a);
                default: return deed(name, a, b, c);
            }
        }

        int deed(String name, int a, int b, int c) {
            boolean air = name.equals("air");
            if (!isGood(name, a, b, c)) {
                return air ? -100 : -1;
            }
            if (name.equals("hatch") && world(-1).hatches.size() == 6 || deeds.size() == 90) {
                return air ? -101 : -3;
            }
            int was = was(name, a, b);
            deeds.add(new Deed(hour, name, a, b, c));
            forget();
            return was;
        }

        boolean isGood(String name, int a, int b, int c) {
            World w = world(-1);
            boolean hatch = a >= 0 && a < w.hatches.size();
            switch (name) {
                case "hatch": return a >= 0 && a <= 3 && b >= 1 && b <= 200 && c >= 1 && c <= 4;
                case "open": return hatch && b >= 0 && b <= 4;
                case "flow": return a >= 0 && a <= 1000;
                case "air": return a >= -20 && a <= 30;
                case "dig": return hatch;
                case "sheep": return hatch && b >= 0 && b < w.hatches.get(a).panes.size() && c >= 0 && c <= 50;
                default: return a >= 0 && a <= 1000 && b >= 0 && c <= 24 && b < c;
            }
        }

        int was(String name, int a, int b) {
            World w = world(-1);
            switch (name) {
                case "hatch": return w.hatches.size();
                case "open": return w.hatches.get(a).open;
                case "flow": return w.flow;
                case "air": return w.air;
                case "dig": return w.hatches.get(a).silt();
                case "sheep": return w.hatches.get(a).panes.get(b).sheep;
                default: return w.right;
            }
        }

        int hours(int n) {
            if (n < 1 || n > 200) {
                return -1;
            }
            if (hour + n > 2400) {
                return -3;
            }
            hour += n;
            forget();
            return hour;
        }

        int told(int hatch, int what) {
            World w = world(-1);
            if (hatch < 0 || hatch >= w.hatches.size() || what < 0 || what > 7) {
                return -1;
            }
            Hatch h = w.hatches.get(hatch);
            return new int[] {h.farm, h.width, h.panes.size(), h.open, h.silt(), h.carried, h.most(), h.took}[what];
        }

        int pane(int hatch, int pane, int what) {
            World w = world(-1);
            if (hatch < 0 || hatch >= w.hatches.size() || what < 0 || what > 5) {
                return -1;
            }
            Hatch h = w.hatches.get(hatch);
            if (pane < 0 || pane >= h.panes.size()) {
                return -1;
            }
            Pane p = h.panes.get(pane);
            return new int[] {p.grass, p.got, p.wet, p.drank, p.sheep, p.ate}[what];
        }

        int stream(int what) {
            World w = world(-1);
            if (what < 0 || what > 6) {
                return -100;
            }
            return new int[] {w.flow, w.air, w.brought, w.drunk, w.mill, w.latest, w.rightBroken}[what];
        }

        int broken(int i, int what) {
            World w = world(-1);
            if (i == -1 && what == 0) {
                return w.broken.size();
            }
            if (i < 0) {
                return -1;
            }
            return i >= 60 || i >= w.broken.size() ? -4 : w.broken.get(i)[what];
        }

        int farm(int farm, int what) {
            if (farm < 0 || farm > 3 || what < 0 || what > 3) {
                return -1;
            }
            return what == 3 ? world(-1).turns[farm] : world(-1).farm(farm, what);
        }

        int without(int hatch, int what) {
            if (hatch < 0 || hatch >= world(-1).hatches.size() || what < 0 || what > 5) {
                return -1;
            }
            World w = world(hatch);
            return what == 0 ? w.mill : what == 1 ? w.rightBroken : w.farm(what - 2, 0);
        }

        int count(int what) {
            if (what < 0 || what > 2) {
                return -1;
            }
            return what == 0 ? world(-1).hatches.size() : what == 1 ? hour : deeds.size();
        }
    }
}
