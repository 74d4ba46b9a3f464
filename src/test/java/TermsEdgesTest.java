/**
 * One test for each sentence of the document's sections 'What it is' and 'Terms' that names a boundary
 * case. The sentence stands beside its test, and is printed if the test fails.
 */
public final class TermsEdgesTest {
    private static final int OUTSIDE = BellLoft.OUTSIDE;
    private static final int NOTHING = -11;
    private static final int KIND = -12;
    private static final int NARROW = -13;
    private static final int SIZE = -14;
    private static final int PLACE = -15;
    private static final int ALARM = -16;

    private static final int BELL = 1;
    private static final int GREAT = 2;
    private static final int CLAPPER = 3;

    private static final int LEAST = Integer.MIN_VALUE;
    private static final int MOST = Integer.MAX_VALUE;

    private static String sentence = "";
    private static int wrong = 0;

    private interface Call {
        int on(BellLoft x);
    }

    private static void fault(String text) {
        wrong++;
        System.out.println("'" + sentence + "': " + text);
    }

    private static void due(String call, int got, int want) {
        if (got != want) {
            fault(call + " answered " + got + ", due is " + want);
        }
    }

    /** A program that throws fails this edge alone, so that the others are still told. */
    private static void edge(String words, Runnable test) {
        sentence = words;
        try {
            test.run();
        } catch (RuntimeException e) {
            fault("threw " + e);
        }
    }

    /**
     * Hook 0 holds a bell of 10 with a clapper of 7 and an alarm of 4, hook 1 a great bell of 100 with a
     * hum of 50, a clapper of 9 and no alarm, hook 2 a clapper of 5, hook 3 a bell of 20 with neither.
     */
    private static BellLoft loft() {
        BellLoft x = new BellLoft();
        x.hang(0, BELL, 10);
        x.hang(1, GREAT, 100);
        x.hang(2, CLAPPER, 7);
        x.fit(0, 2);
        x.hang(2, CLAPPER, 9);
        x.fit(1, 2);
        x.hang(2, CLAPPER, 5);
        x.hang(3, BELL, 20);
        x.alarm(0, 4);
        x.tune(1, 50);
        return x;
    }

    /** The loft with a frame of 3 (bells 0 and 1, then none), a change 0, 1, 2, 3, and a peal of 2 by 3. */
    private static BellLoft fullLoft() {
        BellLoft x = loft();
        x.frame(3, false);
        x.lay(0, 0);
        x.lay(1, 1);
        x.change(4);
        for (int i = 0; i < 4; i++) {
            x.call(i, i);
        }
        x.peal(2, 3);
        x.mark(0, 1, 41);
        x.mark(1, 2, 42);
        return x;
    }

    private static BellLoft rung(BellLoft x, int hook, int times) {
        for (int i = 0; i < times; i++) {
            x.ring(hook);
        }
        return x;
    }

    /** All that calls can tell of a loft but the counts of reasons, in the same order each time. */
    private static int[] allTold(BellLoft x) {
        int[] told = new int[300];
        int n = 0;
        for (int hook = 0; hook < 10; hook++) {
            for (int what = 0; what < 6; what++) {
                told[n++] = x.about(hook, what);
            }
        }
        told[n++] = x.level();
        told[n++] = x.size();
        for (int i = -1; i <= 12; i++) {
            told[n++] = x.see(i);
            for (int j = -1; j <= 12; j++) {
                told[n++] = x.marked(i, j);
            }
        }
        for (int i = 0; i < 5; i++) {
            told[n++] = x.strike(i);
        }
        told[n++] = x.lay(2, 3);
        return told;
    }

    /** The call is answered so, and a loft after it is as one where it was not made. */
    private static void changesNothing(String name, Call call, int want) {
        BellLoft after = fullLoft();
        BellLoft without = fullLoft();
        due(name, call.on(after), want);
        for (int reason = 1; reason <= 6; reason++) {
            int more = want == -10 - reason ? 1 : 0;
            due("reasons(" + reason + ") after " + name, after.reasons(reason), without.reasons(reason) + more);
        }
        int[] got = allTold(after);
        int[] due = allTold(without);
        for (int i = 0; i < due.length; i++) {
            due("the loft after " + name + ", answer " + i, got[i], due[i]);
        }
    }

    private static void aheadStays() {
        BellLoft x = fullLoft();
        due("chime(1)", x.chime(1), NOTHING);
        due("STROKES of the first", x.about(0, 2), 1);
        due("WEAR of the first", x.about(0, 4), 1);
        due("STROKES of the second", x.about(1, 2), 1);
        due("WEAR of the second", x.about(1, 4), 1);
    }

    private static void allCallsAnswer() {
        BellLoft x = new BellLoft();
        x.hang(9, BELL, 1000);
        x.alarm(9, 9);
        for (int call = 3; call <= 510; call++) {
            due("call " + call, x.ring(9), call <= 7 ? NOTHING : ALARM);
        }
        due("call 511, STROKES", x.about(9, 2), 508);
        due("call 512, ALARM", x.reasons(6), 503);
        BellLoft y = new BellLoft();
        for (int call = 1; call < 512; call++) {
            due("hang as call " + call, y.hang(0, CLAPPER, call), call == 1 ? 0 : CLAPPER);
        }
        due("weigh as call 512", y.weigh(0), 511);
    }

    private static void weights() {
        for (int sort = BELL; sort <= CLAPPER; sort++) {
            BellLoft x = new BellLoft();
            due("WEIGHT 1 of sort " + sort, x.hang(0, sort, 1), 0);
            due("weigh(0)", x.weigh(0), 1);
            due("WEIGHT 1000 of sort " + sort, x.hang(1, sort, 1000), 0);
            due("weigh(1)", x.weigh(1), 1000);
            for (int weight : new int[] {LEAST, -1, 0, 1001, MOST}) {
                due("WEIGHT " + weight + " of sort " + sort, x.hang(2, sort, weight), OUTSIDE);
            }
            due("about(2, 0)", x.about(2, 0), 0);
        }
    }

    private static void alarmLevels() {
        BellLoft x = loft();
        due("alarm(3, 1)", x.alarm(3, 1), 0);
        due("raise(3)", x.raise(3), ALARM);
        due("level()", x.level(), 1);
        due("alarm(3, 9)", x.alarm(3, 9), 1);
        due("raise(3)", x.raise(3), ALARM);
        due("level()", x.level(), 9);
        for (int level : new int[] {LEAST, -1, 10, MOST}) {
            due("alarm(3, " + level + ")", x.alarm(3, level), OUTSIDE);
        }
        due("about(3, 5)", x.about(3, 5), 9);
        due("alarm(3, 0)", x.alarm(3, 0), 9);
        due("raise(3) of none", x.raise(3), NOTHING);
    }

    private static void newThings() {
        for (int sort = BELL; sort <= CLAPPER; sort++) {
            BellLoft x = new BellLoft();
            x.hang(0, sort, 30);
            due("STROKES of a new thing of sort " + sort, x.about(0, 2), 0);
            due("HUM of a new thing of sort " + sort, x.about(0, 3), 0);
            due("WEAR of a new thing of sort " + sort, x.about(0, 4), 0);
            due("ALARM of a new thing of sort " + sort, x.about(0, 5), 0);
            due("ring(0) of a new thing of sort " + sort, x.ring(0), sort == CLAPPER ? KIND : NOTHING);
            due("raise(0) of a new thing of sort " + sort, x.raise(0), sort == CLAPPER ? KIND : NOTHING);
        }
    }

    private static void tenHooks() {
        BellLoft x = new BellLoft();
        for (int hook = 0; hook <= 9; hook++) {
            due("hang on " + hook, x.hang(hook, 1 + hook % 3, 100 + hook), 0);
        }
        for (int hook = 0; hook <= 9; hook++) {
            due("sort on " + hook, x.about(hook, 0), 1 + hook % 3);
            due("weigh(" + hook + ")", x.weigh(hook), 100 + hook);
        }
        due("hang(9, 0, 0)", x.hang(9, 0, 0), BELL);
        due("weigh(9)", x.weigh(9), NOTHING);
        due("weigh(8)", x.weigh(8), 108);
    }

    private static void noOtherHook(int hook) {
        String named = "(" + hook + ", ..)";
        changesNothing("hang" + named, x -> x.hang(hook, BELL, 5), OUTSIDE);
        changesNothing("hang of nothing" + named, x -> x.hang(hook, 0, 5), OUTSIDE);
        changesNothing("weigh" + named, x -> x.weigh(hook), OUTSIDE);
        changesNothing("ring" + named, x -> x.ring(hook), OUTSIDE);
        changesNothing("hum" + named, x -> x.hum(hook), OUTSIDE);
        changesNothing("tune" + named, x -> x.tune(hook, 5), OUTSIDE);
        changesNothing("fit" + named, x -> x.fit(hook, 2), OUTSIDE);
        changesNothing("fit(0, " + hook + ")", x -> x.fit(0, hook), OUTSIDE);
        changesNothing("alarm" + named, x -> x.alarm(hook, 5), OUTSIDE);
        changesNothing("raise" + named, x -> x.raise(hook), OUTSIDE);
        changesNothing("lay(0, " + hook + ")", x -> x.lay(0, hook), OUTSIDE);
        changesNothing("about" + named, x -> x.about(hook, 0), OUTSIDE);
    }

    private static void noOtherHooks() {
        for (int hook : new int[] {LEAST, -1, 10, MOST}) {
            noOtherHook(hook);
        }
    }

    private static void noFrameAtFirst() {
        BellLoft x = loft();
        due("size()", x.size(), NOTHING);
        due("see(0)", x.see(0), NOTHING);
        due("lay(0, 0)", x.lay(0, 0), NOTHING);
        due("away(0)", x.away(0), 0);
    }

    private static void placesFromZero() {
        BellLoft x = loft();
        x.frame(2, false);
        due("lay(0, 0)", x.lay(0, 0), 1);
        due("lay(1, 1)", x.lay(1, 1), 1);
        due("lay(2, 0)", x.lay(2, 0), PLACE);
        due("lay(-1, 0)", x.lay(-1, 0), PLACE);
        due("see(0)", x.see(0), 10);
        due("see(1)", x.see(1), 100);
    }

    private static void greatBellsAlone() {
        BellLoft x = loft();
        x.frame(2, true);
        due("lay(0, 1) of a great bell", x.lay(0, 1), 1);
        due("lay(1, 0) of a bell", x.lay(1, 0), NARROW);
        due("lay(0, 3) of a bell", x.lay(0, 3), NARROW);
        due("see(0)", x.see(0), 100);
        due("see(1)", x.see(1), NOTHING);
    }

    private static void laidHangsAllTheSame() {
        BellLoft x = fullLoft();
        due("about(0, 0)", x.about(0, 0), BELL);
        due("weigh(1)", x.weigh(1), 100);
        due("strike(0)", x.strike(0), 17);
        due("about(0, 2) of the bell struck", x.about(0, 2), 1);
        due("ring(0)", x.ring(0), 17);
        due("lay(2, 0) a second time", x.lay(2, 0), 1);
        due("strike(2)", x.strike(2), 17);
        due("about(0, 2)", x.about(0, 2), 3);
    }

    private static void noChangeOrPealAtFirst() {
        BellLoft x = loft();
        x.frame(2, false);
        due("call(0, 0)", x.call(0, 0), NOTHING);
        due("strike(0)", x.strike(0), NOTHING);
        due("chime(0)", x.chime(0), NOTHING);
        due("away(1)", x.away(1), 0);
        due("mark(0, 0, 0)", x.mark(0, 0, 0), NOTHING);
        due("marked(0, 0)", x.marked(0, 0), NOTHING);
        due("away(2)", x.away(2), 0);
    }

    private static void changeAllZero() {
        BellLoft x = fullLoft();
        x.change(5);
        for (int i = 0; i < 5; i++) {
            due("strike(" + i + ") of place 0", x.strike(i), 17);
        }
    }

    private static void pealAllZero() {
        BellLoft x = new BellLoft();
        for (int time = 0; time < 2; time++) {
            x.peal(6, 12);
            for (int i = 0; i < 6; i++) {
                for (int j = 0; j < 12; j++) {
                    due("marked(" + i + ", " + j + ")", x.marked(i, j), 0);
                    x.mark(i, j, 99);
                }
            }
        }
    }

    private static void oneStrokeMore() {
        BellLoft x = loft();
        due("ring(0)", x.ring(0), 17);
        due("about(0, 2) after a sound", x.about(0, 2), 1);
        due("ring(3)", x.ring(3), NOTHING);
        due("about(3, 2) without a clapper", x.about(3, 2), 1);
        rung(x, 0, 5);
        due("about(0, 2) after an alarm", x.about(0, 2), 6);
        rung(x, 1, 6);
        due("about(1, 2) without an alarm", x.about(1, 2), 6);
    }

    private static void moreThanFive() {
        BellLoft x = loft();
        for (int stroke = 1; stroke <= 5; stroke++) {
            due("ring(0), stroke " + stroke, x.ring(0), 17);
            due("level()", x.level(), 0);
        }
        due("ring(0), stroke 6", x.ring(0), ALARM);
        due("level()", x.level(), 4);
        due("ring(0), stroke 7", x.ring(0), ALARM);
        due("about(0, 5), the alarm is still there", x.about(0, 5), 4);
    }

    private static void noAlarm() {
        BellLoft x = rung(loft(), 1, 5);
        due("ring(1), stroke 6", x.ring(1), NOTHING);
        due("level()", x.level(), 0);
        due("reasons(6)", x.reasons(6), 0);
    }

    private static void noClapper() {
        BellLoft x = loft();
        x.alarm(3, 4);
        for (int stroke = 1; stroke <= 5; stroke++) {
            due("ring(3), stroke " + stroke, x.ring(3), NOTHING);
        }
        due("level()", x.level(), 0);
        due("ring(3), stroke 6, is not about the clapper", x.ring(3), ALARM);
    }

    private static void oneWearMore() {
        BellLoft x = loft();
        for (int stroke = 1; stroke <= 5; stroke++) {
            x.ring(0);
            due("about(0, 4), stroke " + stroke, x.about(0, 4), stroke);
        }
        x.ring(0);
        due("about(0, 4), stroke 6, an alarm instead", x.about(0, 4), 5);
        x.fit(0, 2);
        due("about(0, 4) of a new clapper", x.about(0, 4), 0);
    }

    private static int soundOf(int sort, int weight, int clapper) {
        BellLoft x = new BellLoft();
        x.hang(0, sort, weight);
        x.hang(1, CLAPPER, clapper);
        x.fit(0, 1);
        return x.ring(0);
    }

    private static void weightsOfBoth() {
        due("the least SOUND", soundOf(BELL, 1, 1), 2);
        due("a SOUND", soundOf(BELL, 1000, 1), 1001);
        due("a SOUND", soundOf(BELL, 1, 1000), 1001);
        due("the most of a BELL", soundOf(BELL, 1000, 1000), 2000);
        due("a GREAT one without a HUM", soundOf(GREAT, 3, 4), 7);
    }

    private static void humMore() {
        BellLoft x = new BellLoft();
        x.hang(0, GREAT, 1000);
        x.hang(1, CLAPPER, 1000);
        x.fit(0, 1);
        x.tune(0, 1000);
        due("the most of all", x.ring(0), 3000);
        x.tune(0, 1);
        due("a HUM of 1", x.ring(0), 2001);
        x.tune(0, 0);
        due("a HUM of 0", x.ring(0), 2000);
    }

    private static void reasonNothing() {
        BellLoft x = rung(loft(), 1, 5);
        due("no THING", x.weigh(9), NOTHING);
        due("no FRAME", x.size(), NOTHING);
        due("no CHANGE", x.chime(1), NOTHING);
        due("no PEAL", x.marked(0, 0), NOTHING);
        due("no CLAPPER", x.ring(3), NOTHING);
        due("no ALARM", x.raise(3), NOTHING);
        due("no ALARM in ringing", x.ring(1), NOTHING);
        due("reasons(1)", x.reasons(1), 7);
    }

    private static void reasonKind() {
        BellLoft x = fullLoft();
        due("a CLAPPER rung", x.ring(2), KIND);
        due("a BELL taken for a GREAT one", x.hum(0), KIND);
        due("a CLAPPER taken for a GREAT one", x.tune(2, 1), KIND);
        due("a CLAPPER taken for a BELL", x.fit(2, 9), KIND);
        due("a BELL taken for a CLAPPER", x.fit(0, 3), KIND);
        due("a CLAPPER with an ALARM", x.alarm(2, 1), KIND);
        due("a CLAPPER raised", x.raise(2), KIND);
        due("a CLAPPER laid", x.lay(0, 2), KIND);
        due("reasons(2)", x.reasons(2), 8);
    }

    private static void reasonNarrow() {
        BellLoft x = loft();
        x.frame(1, true);
        due("a BELL for a GREAT FRAME", x.lay(0, 0), NARROW);
        due("a GREAT BELL for a GREAT FRAME", x.lay(0, 1), 1);
        x.frame(1, false);
        due("a BELL for a FRAME", x.lay(0, 0), 1);
        due("a GREAT BELL for a FRAME", x.lay(0, 1), 1);
        due("reasons(3)", x.reasons(3), 1);
    }

    private static void reasonSize() {
        BellLoft x = new BellLoft();
        due("frame(-1, false)", x.frame(-1, false), SIZE);
        due("frame(0, false)", x.frame(0, false), 0);
        due("change(-1)", x.change(-1), SIZE);
        due("change(0)", x.change(0), 0);
        due("peal(-1, 0)", x.peal(-1, 0), SIZE);
        due("peal(0, -1)", x.peal(0, -1), SIZE);
        due("peal(0, 0)", x.peal(0, 0), 0);
        due("reasons(4)", x.reasons(4), 4);
    }

    private static void reasonPlace() {
        BellLoft x = fullLoft();
        due("see(3)", x.see(3), PLACE);
        due("see(-1)", x.see(-1), PLACE);
        due("lay(3, 0)", x.lay(3, 0), PLACE);
        due("call(4, 0)", x.call(4, 0), PLACE);
        due("strike(4)", x.strike(4), PLACE);
        due("strike(3) of place 3", x.strike(3), PLACE);
        due("mark(2, 0, 0)", x.mark(2, 0, 0), PLACE);
        due("marked(0, 3)", x.marked(0, 3), PLACE);
        due("reasons(5)", x.reasons(5), 8);
    }

    private static void reasonAlarm() {
        BellLoft x = fullLoft();
        due("raise(0)", x.raise(0), ALARM);
        rung(x, 0, 5);
        due("ring(0)", x.ring(0), ALARM);
        due("strike(0)", x.strike(0), ALARM);
        due("chime(1)", x.chime(1), ALARM);
        due("reasons(6)", x.reasons(6), 4);
    }

    /** Each of these calls could tell a reason, too, were its number as told. */
    private static void outsideAheadOfAll() {
        BellLoft x = loft();
        due("hang(2, 4, 0)", x.hang(2, 4, 0), OUTSIDE);
        due("tune(2, 1001), KIND", x.tune(2, 1001), OUTSIDE);
        due("tune(9, -1), NOTHING", x.tune(9, -1), OUTSIDE);
        due("fit(2, 10), KIND", x.fit(2, 10), OUTSIDE);
        due("fit(10, 3), KIND", x.fit(10, 3), OUTSIDE);
        due("fit(9, -1), NOTHING", x.fit(9, -1), OUTSIDE);
        due("alarm(2, 10), KIND", x.alarm(2, 10), OUTSIDE);
        due("alarm(9, 10), NOTHING", x.alarm(9, 10), OUTSIDE);
        due("lay(-1, 10), NOTHING", x.lay(-1, 10), OUTSIDE);
        due("call(-1, 100), NOTHING", x.call(-1, 100), OUTSIDE);
        due("chime(2), NOTHING", x.chime(2), OUTSIDE);
        due("peal(-1, 13), SIZE", x.peal(-1, 13), OUTSIDE);
        due("peal(13, -1), SIZE", x.peal(13, -1), OUTSIDE);
        due("mark(-1, -1, 100), NOTHING", x.mark(-1, -1, 100), OUTSIDE);
        for (int reason = 1; reason <= 6; reason++) {
            due("reasons(" + reason + ")", x.reasons(reason), 0);
        }
    }

    private static void outsideChangesNothing() {
        changesNothing("hang(0, 4, 5)", x -> x.hang(0, 4, 5), OUTSIDE);
        changesNothing("hang(0, -1, 5)", x -> x.hang(0, -1, 5), OUTSIDE);
        changesNothing("hang(0, 1, 0)", x -> x.hang(0, BELL, 0), OUTSIDE);
        changesNothing("hang(0, 3, 1001)", x -> x.hang(0, CLAPPER, 1001), OUTSIDE);
        changesNothing("tune(1, 1001)", x -> x.tune(1, 1001), OUTSIDE);
        changesNothing("tune(1, -1)", x -> x.tune(1, -1), OUTSIDE);
        changesNothing("alarm(0, 10)", x -> x.alarm(0, 10), OUTSIDE);
        changesNothing("alarm(0, -1)", x -> x.alarm(0, -1), OUTSIDE);
        changesNothing("frame(13, true)", x -> x.frame(13, true), OUTSIDE);
        changesNothing("change(13)", x -> x.change(13), OUTSIDE);
        changesNothing("call(0, 100)", x -> x.call(0, 100), OUTSIDE);
        changesNothing("call(0, -1)", x -> x.call(0, -1), OUTSIDE);
        changesNothing("chime(2)", x -> x.chime(2), OUTSIDE);
        changesNothing("chime(-1)", x -> x.chime(-1), OUTSIDE);
        changesNothing("peal(13, 1)", x -> x.peal(13, 1), OUTSIDE);
        changesNothing("peal(1, 13)", x -> x.peal(1, 13), OUTSIDE);
        changesNothing("mark(0, 0, 100)", x -> x.mark(0, 0, 100), OUTSIDE);
        changesNothing("mark(0, 0, -1)", x -> x.mark(0, 0, -1), OUTSIDE);
        changesNothing("away(3)", x -> x.away(3), OUTSIDE);
        changesNothing("away(-1)", x -> x.away(-1), OUTSIDE);
        changesNothing("about(0, 6)", x -> x.about(0, 6), OUTSIDE);
        changesNothing("reasons(0)", x -> x.reasons(0), OUTSIDE);
        changesNothing("reasons(7)", x -> x.reasons(7), OUTSIDE);
    }

    private static void firstReasonOfThings() {
        BellLoft x = loft();
        due("fit(9, 3): KIND, NOTHING", x.fit(9, 3), KIND);
        due("lay(-1, 2): KIND, NOTHING, PLACE", x.lay(-1, 2), KIND);
        due("lay(-1, 0): NOTHING, PLACE", x.lay(-1, 0), NOTHING);
        x.frame(2, true);
        due("lay(2, 2): KIND, PLACE", x.lay(2, 2), KIND);
        due("lay(2, 0): PLACE, NARROW", x.lay(2, 0), PLACE);
        rung(x, 3, 5);
        due("ring(3): NOTHING once for two", x.ring(3), NOTHING);
        due("reasons(1)", x.reasons(1), 1 + 5 + 1);
    }

    private static void firstReasonOfRows() {
        BellLoft x = loft();
        due("see(-1): NOTHING, PLACE", x.see(-1), NOTHING);
        due("call(-1, 0): NOTHING, PLACE", x.call(-1, 0), NOTHING);
        due("strike(-1): NOTHING, PLACE", x.strike(-1), NOTHING);
        due("mark(-1, -1, 0): NOTHING, PLACE", x.mark(-1, -1, 0), NOTHING);
        due("marked(-1, -1): NOTHING, PLACE", x.marked(-1, -1), NOTHING);
        x.change(1);
        x.call(0, 99);
        due("strike(1): PLACE, NOTHING", x.strike(1), PLACE);
        due("strike(0): NOTHING, PLACE", x.strike(0), NOTHING);
        x.frame(0, false);
        due("strike(0): PLACE", x.strike(0), PLACE);
        x.peal(1, 1);
        due("mark(1, 1, 0): PLACE once for two", x.mark(1, 1, 0), PLACE);
        due("peal(-1, -1): SIZE once for two", x.peal(-1, -1), SIZE);
        due("reasons(5)", x.reasons(5), 3);
        due("reasons(4)", x.reasons(4), 1);
    }

    private static void toldChangesNothing() {
        changesNothing("weigh(9)", x -> x.weigh(9), NOTHING);
        changesNothing("ring(2)", x -> x.ring(2), KIND);
        changesNothing("ring(9)", x -> x.ring(9), NOTHING);
        changesNothing("hum(0)", x -> x.hum(0), KIND);
        changesNothing("hum(9)", x -> x.hum(9), NOTHING);
        changesNothing("tune(0, 3)", x -> x.tune(0, 3), KIND);
        changesNothing("tune(2, 3)", x -> x.tune(2, 3), KIND);
        changesNothing("tune(9, 3)", x -> x.tune(9, 3), NOTHING);
        changesNothing("fit(0, 1)", x -> x.fit(0, 1), KIND);
        changesNothing("fit(2, 9)", x -> x.fit(2, 9), KIND);
        changesNothing("fit(9, 2)", x -> x.fit(9, 2), NOTHING);
        changesNothing("alarm(2, 3)", x -> x.alarm(2, 3), KIND);
        changesNothing("alarm(9, 3)", x -> x.alarm(9, 3), NOTHING);
        changesNothing("raise(1)", x -> x.raise(1), NOTHING);
        changesNothing("raise(2)", x -> x.raise(2), KIND);
    }

    private static void toldChangesNoRow() {
        changesNothing("frame(-1, true)", x -> x.frame(-1, true), SIZE);
        changesNothing("lay(0, 2)", x -> x.lay(0, 2), KIND);
        changesNothing("lay(3, 0)", x -> x.lay(3, 0), PLACE);
        changesNothing("see(2)", x -> x.see(2), NOTHING);
        changesNothing("see(3)", x -> x.see(3), PLACE);
        changesNothing("change(-1)", x -> x.change(-1), SIZE);
        changesNothing("call(4, 9)", x -> x.call(4, 9), PLACE);
        changesNothing("call(-1, 9)", x -> x.call(-1, 9), PLACE);
        changesNothing("strike(2)", x -> x.strike(2), NOTHING);
        changesNothing("strike(3)", x -> x.strike(3), PLACE);
        changesNothing("strike(4)", x -> x.strike(4), PLACE);
        changesNothing("peal(-1, 3)", x -> x.peal(-1, 3), SIZE);
        changesNothing("peal(2, -1)", x -> x.peal(2, -1), SIZE);
        changesNothing("mark(2, 0, 9)", x -> x.mark(2, 0, 9), PLACE);
        changesNothing("mark(0, 3, 9)", x -> x.mark(0, 3, 9), PLACE);
        changesNothing("mark(1, -1, 9)", x -> x.mark(1, -1, 9), PLACE);
        changesNothing("marked(2, 0)", x -> x.marked(2, 0), PLACE);
    }

    /** Were the bell not in a great frame, the call would be done: so it cannot be tried on fullLoft(). */
    private static void narrowChangesNothing() {
        BellLoft x = loft();
        x.frame(1, true);
        x.lay(0, 1);
        due("lay(0, 0)", x.lay(0, 0), NARROW);
        due("see(0)", x.see(0), 100);
        due("about(0, 0)", x.about(0, 0), BELL);
    }

    private static void ringingChangesStrokesAndWear() {
        BellLoft x = fullLoft();
        rung(x, 0, 5);
        due("chime(1)", x.chime(1), ALARM);
        due("about(0, 2)", x.about(0, 2), 6);
        due("about(1, 2), not struck", x.about(1, 2), 0);
        due("level()", x.level(), 4);
        due("reasons(6)", x.reasons(6), 1);
    }

    private static void ofTheLoft() {
        edge("what was done ahead of it stays", TermsEdgesTest::aheadStays);
        edge("An object is used for at most 512 calls after it has been made", TermsEdgesTest::allCallsAnswer);
        edge("each has a WEIGHT (1 to 1000)", TermsEdgesTest::weights);
        edge("an ALARM (its level 1 to 9) or none", TermsEdgesTest::alarmLevels);
        edge("(all 0, none at first)", TermsEdgesTest::newThings);
        edge("HOOKS 0 to 9 hold a THING each, or nothing", TermsEdgesTest::tenHooks);
        edge("HOOKS 0 to 9", TermsEdgesTest::noOtherHooks);
        edge("THE FRAME (none at first)", TermsEdgesTest::noFrameAtFirst);
        edge("has places 0, 1, .. for BELLS", TermsEdgesTest::placesFromZero);
        edge("if it is a GREAT one, for GREAT BELLS alone", TermsEdgesTest::greatBellsAlone);
        edge("a BELL that is laid there hangs from its HOOK all the same", TermsEdgesTest::laidHangsAllTheSame);
        edge("THE CHANGE and THE PEAL (none at first)", TermsEdgesTest::noChangeOrPealAtFirst);
        edge("are a row of numbers, and rows of numbers (all 0 at first)", TermsEdgesTest::changeAllZero);
        edge("and rows of numbers (all 0 at first)", TermsEdgesTest::pealAllZero);
    }

    private static void ofRinging() {
        edge("it has one STROKE more", TermsEdgesTest::oneStrokeMore);
        edge("with more than 5 its ALARM goes off", TermsEdgesTest::moreThanFive);
        edge("its ALARM goes off (NOTHING: it has none)", TermsEdgesTest::noAlarm);
        edge("else its CLAPPER (NOTHING: it has none)", TermsEdgesTest::noClapper);
        edge("has one WEAR more", TermsEdgesTest::oneWearMore);
        edge("THE SOUND is the WEIGHTS of both", TermsEdgesTest::weightsOfBoth);
        edge("of a GREAT one its HUM more", TermsEdgesTest::humMore);
    }

    private static void ofReasons() {
        edge("1 NOTHING: there is no THING, FRAME, CHANGE, PEAL, CLAPPER, ALARM where one is wanted",
            TermsEdgesTest::reasonNothing);
        edge("2 KIND: a THING is not what it is taken for", TermsEdgesTest::reasonKind);
        edge("3 NARROW: a BELL that is not GREAT, for a GREAT FRAME", TermsEdgesTest::reasonNarrow);
        edge("4 SIZE: a length below 0", TermsEdgesTest::reasonSize);
        edge("5 PLACE: there is no such place", TermsEdgesTest::reasonPlace);
        edge("6 ALARM: one went off", TermsEdgesTest::reasonAlarm);
    }

    private static void ofAnswers() {
        edge("OUTSIDE (a number is not as told; ahead of all", TermsEdgesTest::outsideAheadOfAll);
        edge("then nothing changes", TermsEdgesTest::outsideChangesNothing);
        edge("of several the first one that the call names", TermsEdgesTest::firstReasonOfThings);
        edge("of several the first one that the call names", TermsEdgesTest::firstReasonOfRows);
        edge("where one is told nothing is changed", TermsEdgesTest::toldChangesNothing);
        edge("where one is told nothing is changed", TermsEdgesTest::toldChangesNoRow);
        edge("where one is told nothing is changed", TermsEdgesTest::narrowChangesNothing);
        edge("but STROKES and WEAR by ringing, and what is told of REASONS and ALARMS",
            TermsEdgesTest::ringingChangesStrokesAndWear);
    }

    public static void main(String[] args) {
        ofTheLoft();
        ofRinging();
        ofReasons();
        ofAnswers();
        System.out.println(wrong == 0 ? "all edges are as due" : wrong + " answers are not as due");
        if (wrong != 0) {
            System.exit(1);
        }
    }
}
