import java.util.ArrayList;
import java.util.Arrays;
import java.util.List;

/**
 * Long mixed runs of calls, compared with a second writing of the document that shares no code with
 * the program: it looks for faults that only some order of calls brings out.
 */
public final class ModelTest {
    private static final int RUNS = 3000;
    private static final int CALLS = 512;
    private static final String[] NAMES = {
        "hang", "weigh", "ring", "hum", "tune", "fit", "alarm", "raise", "level", "frame", "size", "lay",
        "see", "change", "call", "strike", "chime", "peal", "mark", "marked", "away", "about", "reasons"
    };
    private static final int[] EXTREMES = {
        Integer.MIN_VALUE, Integer.MIN_VALUE + 1, -13, -12, -2, -1, 10, 11, 12, 13, 99, 100, 143, 144,
        999, 1000, 1001, Integer.MAX_VALUE - 1, Integer.MAX_VALUE
    };

    /** A fixed row of numbers that look mixed: every run of this test is the same. */
    private static final class Mixer {
        private long state;

        Mixer(long seed) {
            state = seed * 2862933555777941757L + 3037000493L;
        }

        int below(int bound) {
            state = state * 6364136223846793005L + 1442695040888963407L;
            return (int) Long.remainderUnsigned(state >>> 33, bound);
        }

        /** Mostly 0 to most, at times one of the edges or far out. */
        int upTo(int most) {
            int choice = below(24);
            if (choice == 0) {
                return EXTREMES[below(EXTREMES.length)];
            }
            if (choice == 1) {
                return below(2) == 0 ? -1 : most + 1;
            }
            return below(most + 1);
        }
    }

    private static final class Thing {
        int sort;
        int weight;
        int strokes;
        int hum;
        int wear;
        int alarm;
        Thing clapper;
    }

    /** A call ends early by this, with its answer. */
    private static final class Told extends Exception {
        private static final long serialVersionUID = 1L;
        final int reason;

        Told(int reason) {
            super(null, null, false, false);
            this.reason = reason;
        }
    }

    private static final class Model {
        final Thing[] hooks = new Thing[10];
        final int[] counts = new int[7];
        List<Thing> frame;
        boolean great;
        List<Integer> change;
        List<List<Integer>> peal;
        int level;

        static boolean in(int x, int low, int high) {
            return low <= x && x <= high;
        }

        static void want(boolean holds, int reason) throws Told {
            if (!holds) {
                throw new Told(reason);
            }
        }

        static int sort(Thing t) {
            return t == null ? 0 : t.sort;
        }

        Thing bell(int hook, boolean mustBeGreat) throws Told {
            Thing t = hooks[hook];
            want(t == null || t.sort == 2 || (t.sort == 1 && !mustBeGreat), 2);
            want(t != null, 1);
            return t;
        }

        int off(Thing bell) throws Told {
            want(bell.alarm > 0, 1);
            level = bell.alarm;
            throw new Told(6);
        }

        int rung(Thing bell) throws Told {
            if (++bell.strokes > 5) {
                return off(bell);
            }
            want(bell.clapper != null, 1);
            bell.clapper.wear++;
            return bell.weight + bell.clapper.weight + (bell.sort == 2 ? bell.hum : 0);
        }

        int struck(int i) throws Told {
            want(change != null, 1);
            want(in(i, 0, change.size() - 1), 5);
            want(frame != null, 1);
            int place = change.get(i);
            want(in(place, 0, frame.size() - 1), 5);
            want(frame.get(place) != null, 1);
            return rung(frame.get(place));
        }

        int chimed(int mode) throws Told {
            want(change != null, 1);
            int count = 0;
            for (int i = 0; i < change.size(); i++) {
                try {
                    struck(i);
                    count++;
                } catch (Told told) {
                    if (mode == 1) {
                        throw told;
                    }
                    counts[told.reason]++;
                }
            }
            return count;
        }

        boolean outside(String name, int a, int b, int c) {
            return switch (name) {
                case "hang" -> !in(a, 0, 9) || !in(b, 0, 3) || (b != 0 && !in(c, 1, 1000));
                case "weigh", "ring", "hum", "raise" -> !in(a, 0, 9);
                case "tune" -> !in(a, 0, 9) || !in(b, 0, 1000);
                case "fit" -> !in(a, 0, 9) || !in(b, 0, 9);
                case "alarm" -> !in(a, 0, 9) || !in(b, 0, 9);
                case "frame", "change" -> a > 12;
                case "lay" -> !in(b, 0, 9);
                case "call" -> !in(b, 0, 99);
                case "chime" -> a != 0 && a != 1;
                case "peal" -> a > 12 || b > 12;
                case "mark" -> !in(c, 0, 99);
                case "away" -> !in(a, 0, 2);
                case "about" -> !in(a, 0, 9) || !in(b, 0, 5);
                case "reasons" -> !in(a, 1, 6);
                default -> false;
            };
        }

        int answer(String name, int a, int b, int c) {
            if (outside(name, a, b, c)) {
                return -1;
            }
            try {
                return done(name, a, b, c);
            } catch (Told told) {
                counts[told.reason]++;
                return -10 - told.reason;
            }
        }

        int done(String name, int a, int b, int c) throws Told {
            switch (name) {
                case "hang": return hung(a, b, c);
                case "weigh":
                    want(hooks[a] != null, 1);
                    return hooks[a].weight;
                case "ring": return rung(bell(a, false));
                case "hum": return bell(a, true).hum;
                case "tune": return bell(a, true).hum = b;
                case "fit": return fitted(a, b);
                case "alarm":
                    int before = bell(a, false).alarm;
                    hooks[a].alarm = b;
                    return before;
                case "raise": return off(bell(a, false));
                case "level": return level;
                case "about": return known(hooks[a], b);
                case "reasons": return counts[a];
                case "strike": return struck(a);
                case "chime": return chimed(a);
                default: return doneWithRows(name, a, b, c);
            }
        }

        int doneWithRows(String name, int a, int b, int c) throws Told {
            switch (name) {
                case "frame":
                    want(a >= 0, 4);
                    frame = new ArrayList<>(Arrays.asList(new Thing[a]));
                    great = b == 1;
                    return a;
                case "size":
                    want(frame != null, 1);
                    return frame.size();
                case "lay": return laid(a, hooks[b]);
                case "see":
                    want(frame != null, 1);
                    want(in(a, 0, frame.size() - 1), 5);
                    want(frame.get(a) != null, 1);
                    return frame.get(a).weight;
                case "change":
                    want(a >= 0, 4);
                    change = zeros(a);
                    return a;
                case "call":
                    want(change != null, 1);
                    want(in(a, 0, change.size() - 1), 5);
                    change.set(a, b);
                    return b;
                case "peal": return pealed(a, b);
                case "mark":
                    cell(a, b);
                    peal.get(a).set(b, c);
                    return c;
                case "marked": return cell(a, b);
                default: return gone(a);
            }
        }

        static List<Integer> zeros(int n) {
            List<Integer> row = new ArrayList<>();
            for (int i = 0; i < n; i++) {
                row.add(0);
            }
            return row;
        }

        int hung(int hook, int sort, int weight) {
            int before = sort(hooks[hook]);
            hooks[hook] = null;
            if (sort != 0) {
                hooks[hook] = new Thing();
                hooks[hook].sort = sort;
                hooks[hook].weight = weight;
            }
            return before;
        }

        int fitted(int bell, int clapper) throws Told {
            Thing first = hooks[bell];
            Thing other = hooks[clapper];
            want(sort(first) != 3, 2);
            want(sort(other) == 0 || sort(other) == 3, 2);
            want(first != null, 1);
            first.clapper = other;
            hooks[clapper] = null;
            return other == null ? 0 : 1;
        }

        int laid(int place, Thing thing) throws Told {
            want(sort(thing) != 3, 2);
            want(frame != null, 1);
            want(in(place, 0, frame.size() - 1), 5);
            want(!great || sort(thing) != 1, 3);
            frame.set(place, thing);
            return thing == null ? 0 : 1;
        }

        int pealed(int n, int m) throws Told {
            want(n >= 0 && m >= 0, 4);
            peal = new ArrayList<>();
            for (int i = 0; i < n; i++) {
                peal.add(zeros(m));
            }
            return n * m;
        }

        int cell(int i, int j) throws Told {
            want(peal != null, 1);
            want(in(i, 0, peal.size() - 1), 5);
            want(in(j, 0, peal.get(i).size() - 1), 5);
            return peal.get(i).get(j);
        }

        int gone(int what) {
            Object before = what == 0 ? frame : what == 1 ? change : peal;
            switch (what) {
                case 0 -> frame = null;
                case 1 -> change = null;
                default -> peal = null;
            }
            return before == null ? 0 : 1;
        }

        int known(Thing t, int what) {
            if (t == null) {
                return 0;
            }
            return switch (what) {
                case 0 -> t.sort;
                case 1 -> t.weight;
                case 2 -> t.strokes;
                case 3 -> t.hum;
                case 4 -> t.sort == 3 ? t.wear : t.clapper == null ? 0 : t.clapper.wear;
                default -> t.alarm;
            };
        }
    }

    private static int program(BellLoft x, String name, int a, int b, int c) {
        return switch (name) {
            case "hang" -> x.hang(a, b, c);
            case "weigh" -> x.weigh(a);
            case "ring" -> x.ring(a);
            case "hum" -> x.hum(a);
            case "tune" -> x.tune(a, b);
            case "fit" -> x.fit(a, b);
            case "alarm" -> x.alarm(a, b);
            case "raise" -> x.raise(a);
            case "level" -> x.level();
            case "frame" -> x.frame(a, b == 1);
            case "size" -> x.size();
            case "lay" -> x.lay(a, b);
            case "see" -> x.see(a);
            case "change" -> x.change(a);
            case "call" -> x.call(a, b);
            case "strike" -> x.strike(a);
            case "chime" -> x.chime(a);
            case "peal" -> x.peal(a, b);
            case "mark" -> x.mark(a, b, c);
            case "marked" -> x.marked(a, b);
            case "away" -> x.away(a);
            case "about" -> x.about(a, b);
            default -> x.reasons(a);
        };
    }

    /** Numbers for a call, most of them near what the call takes, so that runs get somewhere. */
    private static int[] numbers(Mixer mixer, String name) {
        int hook = mixer.upTo(9);
        int place = mixer.upTo(5);
        return switch (name) {
            case "hang" -> new int[] {hook, mixer.upTo(3), mixer.upTo(1000)};
            case "tune" -> new int[] {hook, mixer.upTo(1000), 0};
            case "fit", "alarm" -> new int[] {hook, mixer.upTo(9), 0};
            case "frame" -> new int[] {mixer.upTo(12), mixer.below(2), 0};
            case "lay" -> new int[] {place, hook, 0};
            case "see", "strike" -> new int[] {place, 0, 0};
            case "change" -> new int[] {mixer.upTo(12), 0, 0};
            case "call" -> new int[] {place, mixer.upTo(mixer.below(4) == 0 ? 99 : 5), 0};
            case "chime" -> new int[] {mixer.upTo(1), 0, 0};
            case "peal" -> new int[] {mixer.upTo(12), mixer.upTo(12), 0};
            case "mark", "marked" -> new int[] {place, mixer.upTo(5), mixer.upTo(99)};
            case "away" -> new int[] {mixer.upTo(2), 0, 0};
            case "about" -> new int[] {hook, mixer.upTo(5), 0};
            case "reasons" -> new int[] {mixer.upTo(6), 0, 0};
            default -> new int[] {hook, 0, 0};
        };
    }

    /** Runs that forget the frame, change and peal too often would never strike a full frame. */
    private static String pickName(Mixer mixer) {
        String name = NAMES[mixer.below(NAMES.length)];
        boolean forgets = name.equals("away") || name.equals("frame") || name.equals("change") || name.equals("peal");
        return forgets && mixer.below(4) != 0 ? NAMES[mixer.below(NAMES.length)] : name;
    }

    private static boolean runIsAsDue(int run) {
        Mixer mixer = new Mixer(run);
        BellLoft x = new BellLoft();
        Model model = new Model();
        for (int i = 1; i <= CALLS; i++) {
            String name = pickName(mixer);
            int[] n = numbers(mixer, name);
            int want = model.answer(name, n[0], n[1], n[2]);
            int got = program(x, name, n[0], n[1], n[2]);
            if (got != want) {
                System.out.println("run " + run + ", call " + i + ": " + name + Arrays.toString(n)
                    + " answered " + got + ", due is " + want);
                return false;
            }
        }
        return true;
    }

    public static void main(String[] args) {
        int wrong = 0;
        for (int run = 0; run < RUNS; run++) {
            if (!runIsAsDue(run)) {
                wrong++;
            }
        }
        System.out.println(wrong == 0 ? "all runs are as due" : wrong + " runs are not as due");
        if (wrong != 0) {
            System.exit(1);
        }
    }
}
