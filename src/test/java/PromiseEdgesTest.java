/**
 * One test for each sentence of promises 1 to 24 that names a boundary case. The promise's number and
 * the sentence stand beside the test, and are printed if it fails.
 */
public final class PromiseEdgesTest {
    private static final int OUTSIDE = BellLoft.OUTSIDE;
    private static final int NOTHING = -11;
    private static final int KIND = -12;
    private static final int NARROW = -13;
    private static final int SIZE = -14;
    private static final int PLACE = -15;
    private static final int ALARM = -16;

    private static final int BELL = 1;
    private static final int GREAT = 2;
    private static final int CLAPPER = 3;

    private static final int LEAST = Integer.MIN_VALUE;
    private static final int MOST = Integer.MAX_VALUE;
    private static final int[] NO_HOOKS = {LEAST, -1, 10, 11, MOST};

    private static String sentence = "";
    private static int wrong = 0;

    private interface Call {
        int on(BellLoft x, int number);
    }

    private static void fault(String text) {
        wrong++;
        System.out.println(sentence + ": " + text);
    }

    private static void due(String call, int got, int want) {
        if (got != want) {
            fault(call + " answered " + got + ", due is " + want);
        }
    }

    /** A program that throws fails this edge alone, so that the others are still told. */
    private static void edge(int promise, String words, Runnable test) {
        sentence = "promise " + promise + ", '" + words + "'";
        try {
            test.run();
        } catch (RuntimeException e) {
            fault("threw " + e);
        }
    }

    /** Every one of the numbers is answered so by the call, and no reason is told that is not answered. */
    private static void each(BellLoft x, String name, int[] numbers, Call call, int want) {
        int[] before = new int[7];
        for (int reason = 1; reason <= 6; reason++) {
            before[reason] = x.reasons(reason);
        }
        for (int number : numbers) {
            due(name + " of " + number, call.on(x, number), want);
        }
        for (int reason = 1; reason <= 6; reason++) {
            int more = want == -10 - reason ? numbers.length : 0;
            due("reasons(" + reason + ") after " + name, x.reasons(reason), before[reason] + more);
        }
    }

    /**
     * Hook 0 holds a bell of 10 with a clapper of 7 and an alarm of 4, hook 1 a great bell of 100 with a
     * hum of 50, a clapper of 9 and no alarm, hook 2 a clapper of 5, hook 3 a bell of 20 with neither.
     */
    private static BellLoft loft() {
        BellLoft x = new BellLoft();
        x.hang(0, BELL, 10);
        x.hang(1, GREAT, 100);
        x.hang(2, CLAPPER, 7);
        x.fit(0, 2);
        x.hang(2, CLAPPER, 9);
        x.fit(1, 2);
        x.hang(2, CLAPPER, 5);
        x.hang(3, BELL, 20);
        x.alarm(0, 4);
        x.tune(1, 50);
        return x;
    }

    /** The loft with a frame of 3 (bells 0 and 1, then none) and a change 0, 1, 2, 3. */
    private static BellLoft framedLoft() {
        BellLoft x = loft();
        x.frame(3, false);
        x.lay(0, 0);
        x.lay(1, 1);
        x.change(4);
        for (int i = 0; i < 4; i++) {
            x.call(i, i);
        }
        return x;
    }

    private static BellLoft rung(BellLoft x, int hook, int times) {
        for (int i = 0; i < times; i++) {
            x.ring(hook);
        }
        return x;
    }

    // Promise 1

    private static void nothingHangs() {
        BellLoft x = new BellLoft();
        for (int hook = 0; hook < 10; hook++) {
            due("about(" + hook + ", 0)", x.about(hook, 0), 0);
            due("weigh(" + hook + ")", x.weigh(hook), NOTHING);
        }
    }

    private static void noRows() {
        BellLoft x = new BellLoft();
        due("size()", x.size(), NOTHING);
        due("call(0, 0)", x.call(0, 0), NOTHING);
        due("marked(0, 0)", x.marked(0, 0), NOTHING);
        for (int what = 0; what < 3; what++) {
            due("away(" + what + ")", x.away(what), 0);
        }
    }

    // Promise 2: hang

    private static void hangSorts() {
        BellLoft x = new BellLoft();
        for (int sort = 1; sort <= 3; sort++) {
            due("hang(" + sort + ", " + sort + ", 5)", x.hang(sort, sort, 5), 0);
            due("about(" + sort + ", 0)", x.about(sort, 0), sort);
        }
        due("alarm of sort 1", x.alarm(1, 1), 0);
        due("hum of sort 1", x.hum(1), KIND);
        due("hum of sort 2", x.hum(2), 0);
        due("alarm of sort 3", x.alarm(3, 1), KIND);
        due("fit(1, 3)", x.fit(1, 3), 1);
    }

    private static void hangNew() {
        BellLoft x = rung(loft(), 1, 3);
        x.alarm(1, 6);
        x.hang(1, GREAT, 100);
        for (int what = 2; what <= 5; what++) {
            due("about(1, " + what + ")", x.about(1, what), 0);
        }
        due("ring(1), its clapper is gone, too", x.ring(1), NOTHING);
    }

    private static void hangNothing() {
        for (int weight : new int[] {LEAST, -1, 0, 1, 1001, MOST}) {
            BellLoft x = loft();
            due("hang(0, 0, " + weight + ")", x.hang(0, 0, weight), BELL);
            due("weigh(0)", x.weigh(0), NOTHING);
            due("hang(0, 0, " + weight + ") again", x.hang(0, 0, weight), 0);
        }
    }

    private static void hangBefore() {
        BellLoft x = new BellLoft();
        int before = 0;
        for (int sort : new int[] {0, 1, 2, 3, 1, 0, 2, 0, 3, 3, 2, 1, 1, 3, 0, 0}) {
            due("hang(9, " + sort + ", 1)", x.hang(9, sort, 1), before);
            before = sort;
        }
    }

    private static void hangWeights() {
        for (int sort = 1; sort <= 3; sort++) {
            int kind = sort;
            BellLoft x = loft();
            due("hang(9, " + sort + ", 1)", x.hang(9, sort, 1), 0);
            due("hang(9, " + sort + ", 1000)", x.hang(9, sort, 1000), sort);
            each(x, "weight", new int[] {LEAST, -1, 0, 1001, MOST}, (y, n) -> y.hang(9, kind, n), OUTSIDE);
            due("weigh(9)", x.weigh(9), 1000);
        }
    }

    private static void hangOutside() {
        BellLoft x = loft();
        each(x, "hook", NO_HOOKS, (y, n) -> y.hang(n, BELL, 5), OUTSIDE);
        each(x, "hook, nothing", NO_HOOKS, (y, n) -> y.hang(n, 0, 5), OUTSIDE);
        each(x, "sort", new int[] {LEAST, -1, 4, MOST}, (y, n) -> y.hang(0, n, 5), OUTSIDE);
        due("about(0, 0)", x.about(0, 0), BELL);
        due("weigh(0)", x.weigh(0), 10);
        due("ring(0) with its clapper", x.ring(0), 17);
    }

    // Promise 3: weigh

    private static void weighEach() {
        BellLoft x = loft();
        due("weigh of a BELL", x.weigh(0), 10);
        due("weigh of a GREAT one", x.weigh(1), 100);
        due("weigh of a CLAPPER", x.weigh(2), 5);
        x.hang(0, BELL, 1000);
        x.hang(9, CLAPPER, 1);
        due("weigh of the most", x.weigh(0), 1000);
        due("weigh of the least, on the last hook", x.weigh(9), 1);
    }

    private static void weighRefused() {
        BellLoft x = loft();
        each(x, "weigh", NO_HOOKS, BellLoft::weigh, OUTSIDE);
        each(x, "weigh", new int[] {4, 9}, BellLoft::weigh, NOTHING);
    }

    // Promise 4: ring

    private static void ringSound() {
        BellLoft x = loft();
        due("ring(0)", x.ring(0), 17);
        due("ring(1)", x.ring(1), 159);
        due("about(0, 2)", x.about(0, 2), 1);
        due("about(0, 4)", x.about(0, 4), 1);
        x.hang(9, BELL, 1);
        x.fit(9, 2);
        due("ring(9)", x.ring(9), 6);
    }

    private static void ringOutside() {
        each(loft(), "ring", NO_HOOKS, BellLoft::ring, OUTSIDE);
    }

    private static void ringClapper() {
        BellLoft x = loft();
        each(x, "ring", new int[] {2, 2, 2, 2, 2, 2}, BellLoft::ring, KIND);
        due("about(2, 4)", x.about(2, 4), 0);
    }

    private static void ringNothing() {
        each(loft(), "ring", new int[] {4, 9}, BellLoft::ring, NOTHING);
    }

    private static void ringNothingInRinging() {
        BellLoft x = loft();
        each(x, "ring without a clapper", new int[] {3, 3}, BellLoft::ring, NOTHING);
        due("about(3, 2)", x.about(3, 2), 2);
        rung(x, 1, 5);
        each(x, "ring without an alarm", new int[] {1, 1}, BellLoft::ring, NOTHING);
        due("about(1, 2)", x.about(1, 2), 7);
    }

    private static void ringAlarm() {
        BellLoft x = rung(loft(), 0, 4);
        due("ring(0), stroke 5", x.ring(0), 17);
        each(x, "ring, strokes 6 and 7", new int[] {0, 0}, BellLoft::ring, ALARM);
        due("level()", x.level(), 4);
    }

    // Promise 5: hum

    private static void humEdges() {
        BellLoft x = loft();
        due("hum(1)", x.hum(1), 50);
        x.tune(1, 1000);
        due("hum(1), the most", x.hum(1), 1000);
        x.tune(1, 0);
        due("hum(1), the least", x.hum(1), 0);
        x.hang(9, GREAT, 5);
        due("hum(9) of a new one", x.hum(9), 0);
    }

    private static void humRefused() {
        BellLoft x = loft();
        each(x, "hum", NO_HOOKS, BellLoft::hum, OUTSIDE);
        each(x, "hum", new int[] {0, 2, 3}, BellLoft::hum, KIND);
        each(x, "hum", new int[] {4, 9}, BellLoft::hum, NOTHING);
    }

    // Promise 6: tune

    private static void tuneEdges() {
        BellLoft x = loft();
        for (int hum : new int[] {0, 1, 999, 1000, 0}) {
            due("tune(1, " + hum + ")", x.tune(1, hum), hum);
            due("about(1, 3)", x.about(1, 3), hum);
        }
    }

    private static void tuneOutside() {
        BellLoft x = loft();
        int[] far = {LEAST, -1, 1001, MOST};
        each(x, "tune of hum", far, (y, n) -> y.tune(1, n), OUTSIDE);
        each(x, "tune of a bell to hum", far, (y, n) -> y.tune(0, n), OUTSIDE);
        each(x, "tune of nothing to hum", far, (y, n) -> y.tune(9, n), OUTSIDE);
        each(x, "tune of hook", NO_HOOKS, (y, n) -> y.tune(n, 5), OUTSIDE);
        due("hum(1)", x.hum(1), 50);
    }

    private static void tuneRefused() {
        BellLoft x = loft();
        each(x, "tune", new int[] {0, 2, 3}, (y, n) -> y.tune(n, 5), KIND);
        each(x, "tune", new int[] {4, 9}, (y, n) -> y.tune(n, 5), NOTHING);
        due("about(0, 3)", x.about(0, 3), 0);
        due("ring(0)", x.ring(0), 17);
    }

    // Promise 7: fit

    private static void fitGets() {
        BellLoft x = loft();
        due("fit(3, 2)", x.fit(3, 2), 1);
        due("about(2, 0), which holds nothing then", x.about(2, 0), 0);
        due("ring(3)", x.ring(3), 25);
        x.hang(9, CLAPPER, 1000);
        due("fit(3, 9) in place of another", x.fit(3, 9), 1);
        due("ring(3)", x.ring(3), 1020);
        due("about(2, 0), the former one is not hung", x.about(2, 0), 0);
        due("about(9, 0)", x.about(9, 0), 0);
    }

    private static void fitTakesAway() {
        BellLoft x = rung(loft(), 0, 2);
        due("fit(0, 9)", x.fit(0, 9), 0);
        due("about(0, 4)", x.about(0, 4), 0);
        due("ring(0)", x.ring(0), NOTHING);
        due("fit(0, 9) where it has none", x.fit(0, 9), 0);
        due("about(0, 2), strokes stay", x.about(0, 2), 3);
    }

    private static void fitOutside() {
        BellLoft x = loft();
        each(x, "fit of bell", NO_HOOKS, (y, n) -> y.fit(n, 2), OUTSIDE);
        each(x, "fit of clapper", NO_HOOKS, (y, n) -> y.fit(0, n), OUTSIDE);
        each(x, "fit of both", NO_HOOKS, (y, n) -> y.fit(n, n), OUTSIDE);
        due("about(2, 0)", x.about(2, 0), CLAPPER);
        due("ring(0)", x.ring(0), 17);
    }

    private static void fitFirstIsClapper() {
        BellLoft x = loft();
        x.hang(9, CLAPPER, 3);
        each(x, "fit(2, ..)", new int[] {0, 1, 2, 4, 9}, (y, n) -> y.fit(2, n), KIND);
        due("about(9, 0)", x.about(9, 0), CLAPPER);
        due("about(2, 0)", x.about(2, 0), CLAPPER);
    }

    private static void fitOtherIsBell() {
        BellLoft x = loft();
        each(x, "fit(0, ..)", new int[] {0, 1, 3}, (y, n) -> y.fit(0, n), KIND);
        each(x, "fit(9, ..)", new int[] {0, 1, 3}, (y, n) -> y.fit(9, n), KIND);
        due("about(3, 0)", x.about(3, 0), BELL);
        due("ring(0), the clapper stays", x.ring(0), 17);
    }

    private static void fitFirstIsNothing() {
        BellLoft x = loft();
        each(x, "fit(9, ..)", new int[] {2, 4, 9}, (y, n) -> y.fit(9, n), NOTHING);
        due("about(2, 0)", x.about(2, 0), CLAPPER);
    }

    // Promise 8: alarm

    private static void alarmBefore() {
        BellLoft x = loft();
        int before = 4;
        for (int level : new int[] {1, 9, 0, 0, 9, 1, 0}) {
            due("alarm(0, " + level + ")", x.alarm(0, level), before);
            due("about(0, 5)", x.about(0, 5), level);
            before = level;
        }
        due("level(), none went off", x.level(), 0);
    }

    private static void alarmOutside() {
        BellLoft x = loft();
        int[] far = {LEAST, -1, 10, MOST};
        each(x, "alarm of level", far, (y, n) -> y.alarm(0, n), OUTSIDE);
        each(x, "alarm of a clapper, level", far, (y, n) -> y.alarm(2, n), OUTSIDE);
        each(x, "alarm of nothing, level", far, (y, n) -> y.alarm(9, n), OUTSIDE);
        each(x, "alarm of hook", NO_HOOKS, (y, n) -> y.alarm(n, 5), OUTSIDE);
        due("about(0, 5)", x.about(0, 5), 4);
    }

    private static void alarmRefused() {
        BellLoft x = loft();
        each(x, "alarm of a clapper", new int[] {0, 1, 9}, (y, n) -> y.alarm(2, n), KIND);
        each(x, "alarm of nothing", new int[] {0, 1, 9}, (y, n) -> y.alarm(9, n), NOTHING);
    }

    // Promise 9: raise

    private static void raiseGoesOff() {
        BellLoft x = loft();
        each(x, "raise", new int[] {0, 0}, BellLoft::raise, ALARM);
        due("level()", x.level(), 4);
        due("about(0, 2), no stroke", x.about(0, 2), 0);
        due("about(0, 5), the alarm stays", x.about(0, 5), 4);
    }

    private static void raiseRefused() {
        BellLoft x = loft();
        each(x, "raise", NO_HOOKS, BellLoft::raise, OUTSIDE);
        each(x, "raise of a clapper", new int[] {2}, BellLoft::raise, KIND);
        each(x, "raise of nothing", new int[] {4, 9}, BellLoft::raise, NOTHING);
        due("level()", x.level(), 0);
    }

    private static void raiseHasNone() {
        BellLoft x = loft();
        each(x, "raise without an alarm", new int[] {1, 3}, BellLoft::raise, NOTHING);
        x.alarm(0, 0);
        each(x, "raise of an alarm taken away", new int[] {0}, BellLoft::raise, NOTHING);
        due("level()", x.level(), 0);
    }

    // Promise 10: level

    private static void levelNone() {
        BellLoft x = loft();
        due("level()", x.level(), 0);
        x.alarm(1, 9);
        x.raise(3);
        rung(x, 0, 5);
        due("level(), still none", x.level(), 0);
    }

    private static void levelLatest() {
        BellLoft x = loft();
        x.alarm(1, 9);
        x.alarm(3, 1);
        x.raise(1);
        due("level()", x.level(), 9);
        x.raise(3);
        due("level(), a lower one", x.level(), 1);
        rung(x, 0, 6);
        due("level(), by ringing", x.level(), 4);
        x.alarm(0, 8);
        x.raise(2);
        due("level(), no other went off", x.level(), 4);
        x.alarm(0, 0);
        x.ring(0);
        x.hang(0, 0, 0);
        due("level(), the bell is gone", x.level(), 4);
    }

    // Promise 11: frame

    private static void frameSizes() {
        BellLoft x = loft();
        for (int n : new int[] {12, 0, 1, 11}) {
            due("frame(" + n + ", false)", x.frame(n, false), n);
            due("size()", x.size(), n);
            due("see of the one after the last", x.see(n), PLACE);
            due("see of the last", x.see(n - 1), n == 0 ? PLACE : NOTHING);
        }
    }

    private static void frameIsEmpty() {
        BellLoft x = loft();
        for (int time = 0; time < 2; time++) {
            x.frame(12, false);
            for (int place = 0; place < 12; place++) {
                due("see(" + place + ")", x.see(place), NOTHING);
                due("lay(" + place + ", 0)", x.lay(place, 0), 1);
            }
        }
        x.frame(1, false);
        x.frame(12, false);
        due("see(11) after a shorter one", x.see(11), NOTHING);
    }

    private static void frameGreatOrNot() {
        BellLoft x = loft();
        x.frame(12, true);
        due("lay(11, 0) into a great one", x.lay(11, 0), NARROW);
        x.frame(12, false);
        due("lay(11, 0) into one that is not", x.lay(11, 0), 1);
        x.frame(12, true);
        due("lay(11, 0) into a great one again", x.lay(11, 0), NARROW);
    }

    private static void frameOutside() {
        BellLoft x = framedLoft();
        int[] far = {13, 14, MOST};
        each(x, "frame", far, (y, n) -> y.frame(n, true), OUTSIDE);
        each(x, "frame", far, (y, n) -> y.frame(n, false), OUTSIDE);
        due("size()", x.size(), 3);
        due("see(0)", x.see(0), 10);
        BellLoft none = loft();
        each(none, "frame where there is none", far, (y, n) -> y.frame(n, true), OUTSIDE);
        due("size()", none.size(), NOTHING);
    }

    private static void frameBelowZero() {
        BellLoft x = framedLoft();
        int[] below = {-1, -2, LEAST};
        each(x, "frame", below, (y, n) -> y.frame(n, true), SIZE);
        due("size()", x.size(), 3);
        due("see(0)", x.see(0), 10);
        due("lay(2, 0), not a great one", x.lay(2, 0), 1);
        BellLoft none = loft();
        each(none, "frame where there is none", below, (y, n) -> y.frame(n, false), SIZE);
        due("size()", none.size(), NOTHING);
    }

    // Promise 12: size

    private static void sizeEdges() {
        BellLoft x = loft();
        x.frame(0, true);
        due("size() of an empty one", x.size(), 0);
        x.frame(12, true);
        due("size() of a full one", x.size(), 12);
        due("reasons(1)", x.reasons(1), 0);
    }

    private static void sizeOfNone() {
        BellLoft x = loft();
        due("size()", x.size(), NOTHING);
        x.frame(12, true);
        x.away(0);
        due("size() after away(0)", x.size(), NOTHING);
        due("reasons(1)", x.reasons(1), 2);
    }

    // Promise 13: lay

    private static void layFirstAndLast() {
        BellLoft x = loft();
        x.frame(12, false);
        due("lay(0, 0)", x.lay(0, 0), 1);
        due("lay(11, 1)", x.lay(11, 1), 1);
        due("see(0)", x.see(0), 10);
        due("see(11)", x.see(11), 100);
        x.hang(9, GREAT, 7);
        due("lay(0, 9) in place of another", x.lay(0, 9), 1);
        due("see(0)", x.see(0), 7);
    }

    private static void layNothing() {
        BellLoft x = framedLoft();
        due("lay(0, 9)", x.lay(0, 9), 0);
        due("see(0)", x.see(0), NOTHING);
        due("lay(2, 9) where there is none", x.lay(2, 9), 0);
        due("about(0, 0), the bell still hangs", x.about(0, 0), BELL);
        x.frame(1, true);
        x.lay(0, 1);
        due("lay(0, 9) in a great frame", x.lay(0, 9), 0);
        due("see(0)", x.see(0), NOTHING);
    }

    private static void layOutside() {
        BellLoft x = framedLoft();
        each(x, "lay of hook", NO_HOOKS, (y, n) -> y.lay(0, n), OUTSIDE);
        each(x, "lay of hook, no such place", NO_HOOKS, (y, n) -> y.lay(3, n), OUTSIDE);
        due("see(0)", x.see(0), 10);
        each(loft(), "lay of hook without a frame", NO_HOOKS, (y, n) -> y.lay(0, n), OUTSIDE);
    }

    private static void layClapper() {
        BellLoft x = framedLoft();
        each(x, "lay of a clapper", new int[] {LEAST, -1, 0, 2, 3, MOST}, (y, n) -> y.lay(n, 2), KIND);
        due("see(0)", x.see(0), 10);
        due("about(2, 0)", x.about(2, 0), CLAPPER);
        each(loft(), "lay of a clapper without a frame", new int[] {0}, (y, n) -> y.lay(n, 2), KIND);
    }

    private static void layWithoutFrame() {
        BellLoft x = loft();
        each(x, "lay of a bell", new int[] {-1, 0, 12}, (y, n) -> y.lay(n, 0), NOTHING);
        each(x, "lay of nothing", new int[] {-1, 0, 12}, (y, n) -> y.lay(n, 9), NOTHING);
        x.frame(3, true);
        x.away(0);
        each(x, "lay after away(0)", new int[] {-1, 0, 12}, (y, n) -> y.lay(n, 0), NOTHING);
    }

    private static void layNoSuchPlace() {
        BellLoft x = framedLoft();
        int[] far = {LEAST, -1, 3, 11, 12, MOST};
        each(x, "lay of a bell", far, (y, n) -> y.lay(n, 0), PLACE);
        each(x, "lay of nothing", far, (y, n) -> y.lay(n, 9), PLACE);
        x.frame(3, true);
        each(x, "lay of a bell in a great frame", far, (y, n) -> y.lay(n, 0), PLACE);
        x.frame(0, false);
        each(x, "lay in an empty frame", new int[] {-1, 0, 1}, (y, n) -> y.lay(n, 0), PLACE);
    }

    private static void layNarrow() {
        BellLoft x = loft();
        x.frame(12, true);
        due("lay(11, 1)", x.lay(11, 1), 1);
        each(x, "lay of a bell in a great frame", new int[] {0, 11}, (y, n) -> y.lay(n, 0), NARROW);
        due("see(11)", x.see(11), 100);
        due("see(0)", x.see(0), NOTHING);
    }

    // Promise 14: see

    private static void seeWithoutFrame() {
        BellLoft x = loft();
        each(x, "see", new int[] {LEAST, -1, 0, 12, MOST}, BellLoft::see, NOTHING);
        x.frame(3, false);
        x.lay(0, 0);
        x.away(0);
        each(x, "see after away(0)", new int[] {-1, 0, 3}, BellLoft::see, NOTHING);
    }

    private static void seeNoSuchPlace() {
        BellLoft x = framedLoft();
        each(x, "see", new int[] {LEAST, -1, 3, 11, 12, MOST}, BellLoft::see, PLACE);
        x.frame(0, false);
        each(x, "see in an empty frame", new int[] {-1, 0}, BellLoft::see, PLACE);
        x.frame(12, false);
        each(x, "see in a full frame", new int[] {-1, 12}, BellLoft::see, PLACE);
    }

    private static void seeNoBell() {
        BellLoft x = framedLoft();
        each(x, "see", new int[] {2}, BellLoft::see, NOTHING);
        due("see(1)", x.see(1), 100);
        x.hang(1, 0, 0);
        due("see(1), laid all the same", x.see(1), 100);
    }

    // Promise 15: change

    private static void changeLengths() {
        BellLoft x = framedLoft();
        for (int n : new int[] {12, 0, 1, 11}) {
            due("change(" + n + ")", x.change(n), n);
            due("call of the one after the last", x.call(n, 5), PLACE);
            due("call of the last", x.call(n - 1, 5), n == 0 ? PLACE : 5);
        }
    }

    private static void changeIsNew() {
        BellLoft x = framedLoft();
        x.change(12);
        for (int i = 0; i < 12; i++) {
            x.call(i, 99);
        }
        x.change(1);
        x.change(12);
        for (int i = 0; i < 5; i++) {
            due("strike(" + i + ")", x.strike(i), 17);
        }
        due("strike(11)", x.strike(11), ALARM);
        due("reasons(5)", x.reasons(5), 0);
    }

    private static void changeOutside() {
        BellLoft x = framedLoft();
        int[] far = {13, 14, MOST};
        each(x, "change", far, BellLoft::change, OUTSIDE);
        due("strike(1)", x.strike(1), 159);
        due("strike(4)", x.strike(4), PLACE);
        BellLoft none = loft();
        each(none, "change where there is none", far, BellLoft::change, OUTSIDE);
        due("call(0, 0)", none.call(0, 0), NOTHING);
    }

    private static void changeBelowZero() {
        BellLoft x = framedLoft();
        int[] below = {-1, -2, LEAST};
        each(x, "change", below, BellLoft::change, SIZE);
        due("strike(1)", x.strike(1), 159);
        due("strike(4)", x.strike(4), PLACE);
        BellLoft none = loft();
        each(none, "change where there is none", below, BellLoft::change, SIZE);
        due("call(0, 0)", none.call(0, 0), NOTHING);
    }

    // Promise 16: call

    private static void callNumbers() {
        BellLoft x = loft();
        x.frame(12, false);
        x.lay(0, 0);
        x.lay(11, 1);
        x.change(12);
        due("call(11, 99)", x.call(11, 99), 99);
        due("strike(11) of place 99", x.strike(11), PLACE);
        due("call(11, 11)", x.call(11, 11), 11);
        due("strike(11) of place 11", x.strike(11), 159);
        due("call(11, 0)", x.call(11, 0), 0);
        due("strike(11) of place 0", x.strike(11), 17);
        due("call(0, 11)", x.call(0, 11), 11);
        due("strike(0) of place 11", x.strike(0), 159);
    }

    private static void callOutside() {
        BellLoft x = framedLoft();
        int[] far = {LEAST, -1, 100, MOST};
        each(x, "call of number", far, (y, n) -> y.call(1, n), OUTSIDE);
        each(x, "call of number, no such i", far, (y, n) -> y.call(4, n), OUTSIDE);
        due("strike(1)", x.strike(1), 159);
        each(loft(), "call of number without a change", far, (y, n) -> y.call(0, n), OUTSIDE);
    }

    private static void callWithoutChange() {
        BellLoft x = loft();
        each(x, "call", new int[] {LEAST, -1, 0, 12, MOST}, (y, n) -> y.call(n, 5), NOTHING);
        x.change(3);
        x.away(1);
        each(x, "call after away(1)", new int[] {-1, 0, 3}, (y, n) -> y.call(n, 5), NOTHING);
    }

    private static void callNoSuchPlace() {
        BellLoft x = framedLoft();
        each(x, "call", new int[] {LEAST, -1, 4, 11, 12, MOST}, (y, n) -> y.call(n, 5), PLACE);
        x.change(0);
        each(x, "call in an empty change", new int[] {-1, 0}, (y, n) -> y.call(n, 5), PLACE);
        x.change(12);
        each(x, "call in a full change", new int[] {-1, 12}, (y, n) -> y.call(n, 5), PLACE);
    }

    // Promise 17: strike

    private static void strikeWithoutChange() {
        BellLoft x = framedLoft();
        x.away(1);
        each(x, "strike", new int[] {LEAST, -1, 0, 4, MOST}, BellLoft::strike, NOTHING);
        due("about(0, 2)", x.about(0, 2), 0);
    }

    private static void strikeNoSuchNumber() {
        BellLoft x = framedLoft();
        int[] far = {LEAST, -1, 4, 11, 12, MOST};
        each(x, "strike", far, BellLoft::strike, PLACE);
        x.away(0);
        each(x, "strike without a frame", far, BellLoft::strike, PLACE);
        x.change(0);
        each(x, "strike of an empty change", new int[] {-1, 0}, BellLoft::strike, PLACE);
    }

    private static void strikeWithoutFrame() {
        BellLoft x = framedLoft();
        x.call(3, 99);
        x.away(0);
        each(x, "strike", new int[] {0, 1, 2, 3}, BellLoft::strike, NOTHING);
        due("about(0, 2)", x.about(0, 2), 0);
    }

    private static void strikeNoSuchPlace() {
        BellLoft x = framedLoft();
        each(x, "strike of place 3", new int[] {3}, BellLoft::strike, PLACE);
        x.call(3, 12);
        each(x, "strike of place 12", new int[] {3}, BellLoft::strike, PLACE);
        x.call(3, 99);
        each(x, "strike of place 99", new int[] {3}, BellLoft::strike, PLACE);
        x.frame(0, false);
        each(x, "strike on an empty frame", new int[] {0, 1, 2, 3}, BellLoft::strike, PLACE);
    }

    private static void strikeNoBell() {
        BellLoft x = framedLoft();
        each(x, "strike", new int[] {2}, BellLoft::strike, NOTHING);
        x.lay(0, 9);
        each(x, "strike", new int[] {0}, BellLoft::strike, NOTHING);
        due("about(0, 2)", x.about(0, 2), 0);
    }

    private static void strikeNothingInRinging() {
        BellLoft x = framedLoft();
        x.lay(2, 3);
        each(x, "strike without a clapper", new int[] {2}, BellLoft::strike, NOTHING);
        due("about(3, 2)", x.about(3, 2), 1);
        rung(x, 1, 5);
        each(x, "strike without an alarm", new int[] {1}, BellLoft::strike, NOTHING);
        due("about(1, 2)", x.about(1, 2), 6);
    }

    private static void strikeAlarm() {
        BellLoft x = framedLoft();
        for (int stroke = 1; stroke <= 5; stroke++) {
            due("strike(0), stroke " + stroke, x.strike(0), 17);
        }
        each(x, "strike, strokes 6 and 7", new int[] {0, 0}, BellLoft::strike, ALARM);
        due("level()", x.level(), 4);
        due("about(0, 2)", x.about(0, 2), 7);
        due("about(0, 4)", x.about(0, 4), 5);
    }

    // Promise 18: chime

    private static void chimePassesOver() {
        BellLoft x = framedLoft();
        x.call(0, 99);
        x.call(1, 2);
        x.call(2, 0);
        x.call(3, 1);
        due("chime(0), the last two of four", x.chime(0), 2);
        due("about(0, 2)", x.about(0, 2), 1);
        due("about(1, 2)", x.about(1, 2), 1);
        rung(x, 0, 4);
        due("chime(0), an alarm is passed over, too", x.chime(0), 1);
        due("level()", x.level(), 4);
        x.fit(1, 9);
        due("chime(0), none was rung", x.chime(0), 0);
    }

    private static void chimeUpToTheFirst() {
        BellLoft x = framedLoft();
        due("chime(1), no bell in place 2", x.chime(1), NOTHING);
        x.call(2, 99);
        due("chime(1), no place 99", x.chime(1), PLACE);
        x.lay(2, 3);
        x.call(0, 2);
        due("chime(1), no clapper", x.chime(1), NOTHING);
        due("about(1, 2), not reached", x.about(1, 2), 2);
        x.call(0, 0);
        rung(x, 0, 3);
        due("chime(1), an alarm", x.chime(1), ALARM);
        due("about(1, 2), not reached", x.about(1, 2), 2);
        x.away(0);
        due("chime(1), no frame", x.chime(1), NOTHING);
    }

    private static void chimeAllRung() {
        BellLoft x = framedLoft();
        x.change(5);
        due("chime(1)", x.chime(1), 5);
        due("about(0, 2)", x.about(0, 2), 5);
        BellLoft y = framedLoft();
        y.change(12);
        for (int i = 0; i < 12; i++) {
            y.call(i, i % 2);
        }
        due("chime(0), of twelve, 5 of each bell", y.chime(0), 10);
        due("about(0, 2)", y.about(0, 2), 6);
        due("about(1, 2)", y.about(1, 2), 6);
    }

    private static void chimeEmpty() {
        BellLoft x = framedLoft();
        x.change(0);
        due("chime(0)", x.chime(0), 0);
        due("chime(1)", x.chime(1), 0);
        x.away(0);
        due("chime(1) without a frame", x.chime(1), 0);
        due("reasons(1)", x.reasons(1), 0);
    }

    private static void chimeOutside() {
        BellLoft x = framedLoft();
        int[] far = {LEAST, -1, 2, MOST};
        each(x, "chime", far, BellLoft::chime, OUTSIDE);
        due("about(0, 2)", x.about(0, 2), 0);
        x.away(1);
        each(x, "chime without a change", far, BellLoft::chime, OUTSIDE);
    }

    private static void chimeWithoutChange() {
        BellLoft x = framedLoft();
        x.away(1);
        each(x, "chime", new int[] {0, 1}, BellLoft::chime, NOTHING);
        due("about(0, 2)", x.about(0, 2), 0);
    }

    // Promise 19: peal

    private static void pealSizes() {
        BellLoft x = new BellLoft();
        due("peal(12, 12)", x.peal(12, 12), 144);
        due("marked(11, 11)", x.marked(11, 11), 0);
        due("peal(1, 12)", x.peal(1, 12), 12);
        due("marked(0, 11)", x.marked(0, 11), 0);
        due("marked(1, 0)", x.marked(1, 0), PLACE);
        due("peal(12, 1)", x.peal(12, 1), 12);
        due("marked(11, 0)", x.marked(11, 0), 0);
        due("marked(0, 1)", x.marked(0, 1), PLACE);
        due("peal(12, 0)", x.peal(12, 0), 0);
        due("marked(0, 0)", x.marked(0, 0), PLACE);
        due("peal(0, 12)", x.peal(0, 12), 0);
        due("marked(0, 0)", x.marked(0, 0), PLACE);
        due("peal(0, 0)", x.peal(0, 0), 0);
        due("away(2), an empty one is one", x.away(2), 1);
    }

    private static void pealIsNew() {
        BellLoft x = new BellLoft();
        x.peal(12, 12);
        for (int i = 0; i < 12; i++) {
            x.mark(i, i, 99);
            x.mark(i, 11 - i, 98);
        }
        x.peal(1, 1);
        x.peal(12, 12);
        for (int i = 0; i < 12; i++) {
            for (int j = 0; j < 12; j++) {
                due("marked(" + i + ", " + j + ")", x.marked(i, j), 0);
            }
        }
    }

    private static BellLoft markedLoft() {
        BellLoft x = new BellLoft();
        x.peal(2, 3);
        x.mark(0, 0, 40);
        x.mark(1, 2, 42);
        return x;
    }

    private static void stillMarked(BellLoft x) {
        due("marked(0, 0)", x.marked(0, 0), 40);
        due("marked(1, 2)", x.marked(1, 2), 42);
        due("marked(2, 0)", x.marked(2, 0), PLACE);
        due("marked(0, 3)", x.marked(0, 3), PLACE);
    }

    private static void pealOutside() {
        BellLoft x = markedLoft();
        int[] far = {13, 14, MOST};
        for (int other : new int[] {LEAST, -1, 0, 1, 12, 13}) {
            each(x, "peal of rows", far, (y, n) -> y.peal(n, other), OUTSIDE);
            each(x, "peal of numbers", far, (y, n) -> y.peal(other, n), OUTSIDE);
        }
        stillMarked(x);
    }

    private static void pealBelowZero() {
        BellLoft x = markedLoft();
        int[] below = {-1, -2, LEAST};
        for (int other : new int[] {LEAST, -1, 0, 1, 12}) {
            each(x, "peal of rows", below, (y, n) -> y.peal(n, other), SIZE);
            each(x, "peal of numbers", below, (y, n) -> y.peal(other, n), SIZE);
        }
        stillMarked(x);
        BellLoft none = new BellLoft();
        each(none, "peal where there is none", below, (y, n) -> y.peal(n, 1), SIZE);
        due("marked(0, 0)", none.marked(0, 0), NOTHING);
    }

    // Promise 20: mark

    private static void markNumbers() {
        BellLoft x = new BellLoft();
        x.peal(12, 12);
        due("mark(11, 0, 99)", x.mark(11, 0, 99), 99);
        due("mark(0, 11, 1)", x.mark(0, 11, 1), 1);
        due("mark(11, 11, 98)", x.mark(11, 11, 98), 98);
        due("marked(11, 0)", x.marked(11, 0), 99);
        due("marked(0, 11)", x.marked(0, 11), 1);
        due("marked(11, 11)", x.marked(11, 11), 98);
        due("mark(11, 0, 0)", x.mark(11, 0, 0), 0);
        due("marked(11, 0)", x.marked(11, 0), 0);
        due("marked(10, 11)", x.marked(10, 11), 0);
        due("marked(1, 0)", x.marked(1, 0), 0);
    }

    private static void markOutside() {
        BellLoft x = markedLoft();
        int[] far = {LEAST, -1, 100, MOST};
        each(x, "mark of number", far, (y, n) -> y.mark(0, 0, n), OUTSIDE);
        each(x, "mark of number, no such row", far, (y, n) -> y.mark(2, 0, n), OUTSIDE);
        stillMarked(x);
        each(new BellLoft(), "mark of number without a peal", far, (y, n) -> y.mark(0, 0, n), OUTSIDE);
    }

    private static void markWithoutPeal() {
        BellLoft x = new BellLoft();
        int[] any = {LEAST, -1, 0, 12, MOST};
        each(x, "mark of row", any, (y, n) -> y.mark(n, 0, 5), NOTHING);
        each(x, "mark of number j", any, (y, n) -> y.mark(0, n, 5), NOTHING);
        x.peal(3, 3);
        x.away(2);
        each(x, "mark after away(2)", any, (y, n) -> y.mark(n, 0, 5), NOTHING);
    }

    private static void markNoSuchRow() {
        BellLoft x = markedLoft();
        int[] far = {LEAST, -1, 2, 11, 12, MOST};
        each(x, "mark of row", far, (y, n) -> y.mark(n, 0, 5), PLACE);
        each(x, "mark of row and number", far, (y, n) -> y.mark(n, n, 5), PLACE);
        stillMarked(x);
    }

    private static void markNoSuchNumber() {
        BellLoft x = markedLoft();
        int[] far = {LEAST, -1, 3, 11, 12, MOST};
        each(x, "mark of the first row's number", far, (y, n) -> y.mark(0, n, 5), PLACE);
        each(x, "mark of the last row's number", far, (y, n) -> y.mark(1, n, 5), PLACE);
        stillMarked(x);
    }

    // Promise 21: marked

    private static void markedWithoutPeal() {
        BellLoft x = new BellLoft();
        int[] any = {LEAST, -1, 0, 12, MOST};
        each(x, "marked of row", any, (y, n) -> y.marked(n, 0), NOTHING);
        each(x, "marked of number", any, (y, n) -> y.marked(0, n), NOTHING);
        BellLoft gone = markedLoft();
        gone.away(2);
        each(gone, "marked after away(2)", any, (y, n) -> y.marked(n, 0), NOTHING);
    }

    private static void markedNoSuchRow() {
        BellLoft x = markedLoft();
        int[] far = {LEAST, -1, 2, 11, 12, MOST};
        each(x, "marked of row", far, (y, n) -> y.marked(n, 0), PLACE);
        each(x, "marked of row and number", far, (y, n) -> y.marked(n, n), PLACE);
        x.peal(12, 12);
        each(x, "marked of a full peal's row", new int[] {-1, 12}, (y, n) -> y.marked(n, 0), PLACE);
    }

    private static void markedNoSuchNumber() {
        BellLoft x = markedLoft();
        int[] far = {LEAST, -1, 3, 11, 12, MOST};
        each(x, "marked of the first row's number", far, (y, n) -> y.marked(0, n), PLACE);
        each(x, "marked of the last row's number", far, (y, n) -> y.marked(1, n), PLACE);
        x.peal(12, 12);
        each(x, "marked of a full row's number", new int[] {-1, 12}, (y, n) -> y.marked(5, n), PLACE);
    }

    private static void markedEach() {
        BellLoft x = new BellLoft();
        x.peal(12, 12);
        for (int k = 0; k < 144; k++) {
            x.mark(k / 12, k % 12, k % 100);
        }
        for (int k = 0; k < 144; k++) {
            due("marked(" + k / 12 + ", " + k % 12 + ")", x.marked(k / 12, k % 12), k % 100);
        }
    }

    // Promise 22: away

    private static void awayFrame() {
        BellLoft x = framedLoft();
        due("away(0)", x.away(0), 1);
        due("size()", x.size(), NOTHING);
        due("away(0) again", x.away(0), 0);
        due("call(0, 0), the change stays", x.call(0, 0), 0);
        x.frame(3, false);
        due("see(0) in the next one", x.see(0), NOTHING);
        x.frame(0, false);
        due("away(0) of an empty one", x.away(0), 1);
    }

    private static void awayChange() {
        BellLoft x = framedLoft();
        due("away(1)", x.away(1), 1);
        due("chime(0)", x.chime(0), NOTHING);
        due("away(1) again", x.away(1), 0);
        due("size(), the frame stays", x.size(), 3);
        x.change(4);
        due("strike(3) of the next one", x.strike(3), 17);
        x.change(0);
        due("away(1) of an empty one", x.away(1), 1);
    }

    private static void awayPeal() {
        BellLoft x = markedLoft();
        due("away(2)", x.away(2), 1);
        due("marked(0, 0)", x.marked(0, 0), NOTHING);
        due("away(2) again", x.away(2), 0);
        x.peal(2, 3);
        due("marked(0, 0) of the next one", x.marked(0, 0), 0);
        for (int n = 0; n < 3; n++) {
            x.peal(n, 0);
            due("away(2) of " + n + " empty rows", x.away(2), 1);
        }
    }

    private static void awayOutside() {
        BellLoft x = framedLoft();
        x.peal(1, 1);
        each(x, "away", new int[] {LEAST, -1, 3, MOST}, BellLoft::away, OUTSIDE);
        due("size()", x.size(), 3);
        due("call(3, 3)", x.call(3, 3), 3);
        due("marked(0, 0)", x.marked(0, 0), 0);
    }

    // Promise 23: about

    private static void aboutAll(BellLoft x, int hook, int... want) {
        for (int what = 0; what <= 5; what++) {
            due("about(" + hook + ", " + what + ")", x.about(hook, what), want[what]);
        }
    }

    private static void aboutNothing() {
        BellLoft x = loft();
        aboutAll(x, 9, 0, 0, 0, 0, 0, 0);
        due("reasons(1)", x.reasons(1), 0);
    }

    private static void aboutEach() {
        BellLoft x = loft();
        x.alarm(1, 9);
        rung(x, 0, 1);
        rung(x, 1, 6);
        rung(x, 3, 2);
        aboutAll(x, 0, BELL, 10, 1, 0, 1, 4);
        aboutAll(x, 1, GREAT, 100, 6, 50, 5, 9);
        aboutAll(x, 2, CLAPPER, 5, 0, 0, 0, 0);
        aboutAll(x, 3, BELL, 20, 2, 0, 0, 0);
    }

    private static void aboutOutside() {
        BellLoft x = loft();
        int[] far = {LEAST, -1, 6, MOST};
        each(x, "about of a bell, what", far, (y, n) -> y.about(0, n), OUTSIDE);
        each(x, "about of nothing, what", far, (y, n) -> y.about(9, n), OUTSIDE);
        for (int what = 0; what <= 5; what++) {
            int known = what;
            each(x, "about(.., " + what + "), hook", NO_HOOKS, (y, n) -> y.about(n, known), OUTSIDE);
        }
    }

    // Promise 24: reasons

    private static void reasonsEach() {
        BellLoft x = loft();
        for (int reason = 1; reason <= 6; reason++) {
            due("reasons(" + reason + ") at first", x.reasons(reason), 0);
        }
        x.frame(1, true);
        for (int i = 0; i < 60; i++) {
            int told = i < 10 ? x.weigh(9) : i < 21 ? x.hum(2) : i < 33 ? x.lay(0, 0) : i < 40 ? x.change(-1)
                : i < 48 ? x.see(1) : x.raise(0);
            due("the call that tells is refused, " + i, told > -11 ? 1 : 0, 0);
        }
        int[] want = {0, 10, 11, 12, 7, 8, 12};
        for (int reason = 1; reason <= 6; reason++) {
            due("reasons(" + reason + ")", x.reasons(reason), want[reason]);
        }
    }

    private static void reasonsOfChime() {
        BellLoft x = framedLoft();
        x.lay(2, 3);
        x.change(8);
        int[] places = {2, 99, 1, 2, 12, 3, 0, 0};
        for (int i = 0; i < places.length; i++) {
            x.call(i, places[i]);
        }
        rung(x, 0, 5);
        due("chime(0)", x.chime(0), 1);
        due("reasons(1)", x.reasons(1), 2);
        due("reasons(5)", x.reasons(5), 3);
        due("reasons(6)", x.reasons(6), 2);
        due("chime(1)", x.chime(1), NOTHING);
        due("reasons(1), once for the stroke that is answered", x.reasons(1), 3);
        due("reasons(5), not reached", x.reasons(5), 3);
    }

    private static void reasonsOutside() {
        BellLoft x = loft();
        each(x, "reasons", new int[] {LEAST, -1, 0, 7, MOST}, BellLoft::reasons, OUTSIDE);
        each(x, "reasons", new int[] {-11, -16}, BellLoft::reasons, OUTSIDE);
    }

    private static void ofHooks() {
        edge(1, "Nothing hangs", PromiseEdgesTest::nothingHangs);
        edge(1, "there is no FRAME, CHANGE, PEAL", PromiseEdgesTest::noRows);
        edge(2, "a sort (1 a BELL, 2 a GREAT one, 3 a CLAPPER)", PromiseEdgesTest::hangSorts);
        edge(2, "A HOOK holds a new THING", PromiseEdgesTest::hangNew);
        edge(2, "or nothing (0; the weight is not looked at)", PromiseEdgesTest::hangNothing);
        edge(2, "the sort of what it held (0: nothing)", PromiseEdgesTest::hangBefore);
        edge(2, "with a WEIGHT", PromiseEdgesTest::hangWeights);
        edge(2, "OUTSIDE", PromiseEdgesTest::hangOutside);
        edge(3, "The WEIGHT of what a HOOK holds", PromiseEdgesTest::weighEach);
        edge(3, "OUTSIDE; NOTHING", PromiseEdgesTest::weighRefused);
    }

    private static void ofRinging() {
        edge(4, "The BELL of a HOOK is RUNG: THE SOUND", PromiseEdgesTest::ringSound);
        edge(4, "OUTSIDE", PromiseEdgesTest::ringOutside);
        edge(4, "KIND: a CLAPPER", PromiseEdgesTest::ringClapper);
        edge(4, "NOTHING", PromiseEdgesTest::ringNothing);
        edge(4, "NOTHING: also in ringing", PromiseEdgesTest::ringNothingInRinging);
        edge(4, "ALARM", PromiseEdgesTest::ringAlarm);
        edge(5, "The HUM of a HOOK's GREAT BELL", PromiseEdgesTest::humEdges);
        edge(5, "OUTSIDE; KIND; NOTHING", PromiseEdgesTest::humRefused);
        edge(6, "becomes 0 to 1000: that", PromiseEdgesTest::tuneEdges);
        edge(6, "OUTSIDE", PromiseEdgesTest::tuneOutside);
        edge(6, "KIND; NOTHING", PromiseEdgesTest::tuneRefused);
    }

    private static void ofClappersAndAlarms() {
        edge(7, "gets the CLAPPER of another one, which holds nothing then: 1", PromiseEdgesTest::fitGets);
        edge(7, "where that holds nothing, it has none any more: 0", PromiseEdgesTest::fitTakesAway);
        edge(7, "OUTSIDE", PromiseEdgesTest::fitOutside);
        edge(7, "KIND: the first HOOK holds a CLAPPER", PromiseEdgesTest::fitFirstIsClapper);
        edge(7, "or the other one a BELL", PromiseEdgesTest::fitOtherIsBell);
        edge(7, "NOTHING: the first one holds nothing", PromiseEdgesTest::fitFirstIsNothing);
        edge(8, "has an ALARM of a level, or none (0): the level before, 0", PromiseEdgesTest::alarmBefore);
        edge(8, "OUTSIDE", PromiseEdgesTest::alarmOutside);
        edge(8, "KIND; NOTHING", PromiseEdgesTest::alarmRefused);
        edge(9, "The ALARM of a HOOK's BELL goes off", PromiseEdgesTest::raiseGoesOff);
        edge(9, "OUTSIDE; KIND; NOTHING", PromiseEdgesTest::raiseRefused);
        edge(9, "NOTHING: also it has none", PromiseEdgesTest::raiseHasNone);
        edge(10, "0: none did", PromiseEdgesTest::levelNone);
        edge(10, "The level of the ALARM that went off latest", PromiseEdgesTest::levelLatest);
    }

    private static void ofTheFrame() {
        edge(11, "a new one of n places (12 at most)", PromiseEdgesTest::frameSizes);
        edge(11, "all without a BELL", PromiseEdgesTest::frameIsEmpty);
        edge(11, "a GREAT one or not", PromiseEdgesTest::frameGreatOrNot);
        edge(11, "OUTSIDE: above 12", PromiseEdgesTest::frameOutside);
        edge(11, "SIZE (it stays as it is)", PromiseEdgesTest::frameBelowZero);
        edge(12, "How many places THE FRAME has", PromiseEdgesTest::sizeEdges);
        edge(12, "NOTHING", PromiseEdgesTest::sizeOfNone);
        edge(13, "is laid into a place of THE FRAME: 1", PromiseEdgesTest::layFirstAndLast);
        edge(13, "where the HOOK holds nothing the place has none then: 0", PromiseEdgesTest::layNothing);
        edge(13, "OUTSIDE: the HOOK", PromiseEdgesTest::layOutside);
        edge(13, "KIND: a CLAPPER", PromiseEdgesTest::layClapper);
        edge(13, "NOTHING: no FRAME", PromiseEdgesTest::layWithoutFrame);
        edge(13, "PLACE", PromiseEdgesTest::layNoSuchPlace);
        edge(13, "NARROW", PromiseEdgesTest::layNarrow);
        edge(14, "NOTHING: no FRAME", PromiseEdgesTest::seeWithoutFrame);
        edge(14, "PLACE", PromiseEdgesTest::seeNoSuchPlace);
        edge(14, "NOTHING: no BELL there", PromiseEdgesTest::seeNoBell);
    }

    private static void ofTheChange() {
        edge(15, "a new one of n numbers (12 at most): n", PromiseEdgesTest::changeLengths);
        edge(15, "THE CHANGE is a new one", PromiseEdgesTest::changeIsNew);
        edge(15, "OUTSIDE: above 12", PromiseEdgesTest::changeOutside);
        edge(15, "SIZE (it stays as it is)", PromiseEdgesTest::changeBelowZero);
        edge(16, "becomes 0 to 99: that", PromiseEdgesTest::callNumbers);
        edge(16, "OUTSIDE: the number", PromiseEdgesTest::callOutside);
        edge(16, "NOTHING", PromiseEdgesTest::callWithoutChange);
        edge(16, "PLACE: i", PromiseEdgesTest::callNoSuchPlace);
        edge(17, "NOTHING: no CHANGE", PromiseEdgesTest::strikeWithoutChange);
        edge(17, "PLACE: i", PromiseEdgesTest::strikeNoSuchNumber);
        edge(17, "NOTHING: no FRAME", PromiseEdgesTest::strikeWithoutFrame);
        edge(17, "PLACE", PromiseEdgesTest::strikeNoSuchPlace);
        edge(17, "NOTHING: no BELL there", PromiseEdgesTest::strikeNoBell);
        edge(17, "and in ringing", PromiseEdgesTest::strikeNothingInRinging);
        edge(17, "ALARM", PromiseEdgesTest::strikeAlarm);
        edge(18, "mode 0: all numbers, others are passed over", PromiseEdgesTest::chimePassesOver);
        edge(18, "1: up to the first that is not, whose REASON is answered", PromiseEdgesTest::chimeUpToTheFirst);
        edge(18, "from number 0 on: how many were RUNG", PromiseEdgesTest::chimeAllRung);
        edge(18, "how many were RUNG", PromiseEdgesTest::chimeEmpty);
        edge(18, "OUTSIDE: mode", PromiseEdgesTest::chimeOutside);
        edge(18, "NOTHING: no CHANGE", PromiseEdgesTest::chimeWithoutChange);
    }

    private static void ofThePeal() {
        edge(19, "n rows of m numbers (12 at most each): n times m", PromiseEdgesTest::pealSizes);
        edge(19, "THE PEAL is a new one", PromiseEdgesTest::pealIsNew);
        edge(19, "OUTSIDE: one is above 12", PromiseEdgesTest::pealOutside);
        edge(19, "SIZE: one is below 0 (it stays as it is)", PromiseEdgesTest::pealBelowZero);
        edge(20, "becomes 0 to 99: that", PromiseEdgesTest::markNumbers);
        edge(20, "OUTSIDE: the number", PromiseEdgesTest::markOutside);
        edge(20, "NOTHING", PromiseEdgesTest::markWithoutPeal);
        edge(20, "PLACE: i", PromiseEdgesTest::markNoSuchRow);
        edge(20, "PLACE: i, j", PromiseEdgesTest::markNoSuchNumber);
        edge(21, "NOTHING", PromiseEdgesTest::markedWithoutPeal);
        edge(21, "PLACE: i", PromiseEdgesTest::markedNoSuchRow);
        edge(21, "PLACE: i, j", PromiseEdgesTest::markedNoSuchNumber);
        edge(21, "Number j of row i of THE PEAL", PromiseEdgesTest::markedEach);
    }

    private static void ofTheRest() {
        edge(22, "0 THE FRAME", PromiseEdgesTest::awayFrame);
        edge(22, "1 THE CHANGE", PromiseEdgesTest::awayChange);
        edge(22, "2 THE PEAL", PromiseEdgesTest::awayPeal);
        edge(22, "OUTSIDE", PromiseEdgesTest::awayOutside);
        edge(23, "0 its sort (0: nothing)", PromiseEdgesTest::aboutNothing);
        edge(23, "0 where there is none", PromiseEdgesTest::aboutEach);
        edge(23, "OUTSIDE", PromiseEdgesTest::aboutOutside);
        edge(24, "How often a REASON (1 to 6) was told by calls so far", PromiseEdgesTest::reasonsEach);
        edge(24, "by strokes of chime(), too (each once)", PromiseEdgesTest::reasonsOfChime);
        edge(24, "OUTSIDE", PromiseEdgesTest::reasonsOutside);
    }

    public static void main(String[] args) {
        ofHooks();
        ofRinging();
        ofClappersAndAlarms();
        ofTheFrame();
        ofTheChange();
        ofThePeal();
        ofTheRest();
        System.out.println(wrong == 0 ? "all edges are as due" : wrong + " answers are not as due");
        if (wrong != 0) {
            System.exit(1);
        }
    }
}
