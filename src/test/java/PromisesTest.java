/** For each promise of the document: ordinary inputs, the edges that it names, and wrong inputs. */
public final class PromisesTest {
    private static final int OUTSIDE = BellLoft.OUTSIDE;
    private static final int NOTHING = -11;
    private static final int KIND = -12;
    private static final int NARROW = -13;
    private static final int SIZE = -14;
    private static final int PLACE = -15;
    private static final int ALARM = -16;

    private static final int BELL = 1;
    private static final int GREAT = 2;
    private static final int CLAPPER = 3;

    private static final int[] FAR_OUT = {Integer.MIN_VALUE, -1, 100, Integer.MAX_VALUE};

    private static int promise = 0;
    private static int wrong = 0;

    private static void due(String call, int got, int want) {
        if (got != want) {
            wrong++;
            System.out.println("promise " + promise + ": " + call + " answered " + got + ", due is " + want);
        }
    }

    /** Hook 0 a bell of 10, 1 a great bell of 100, 2 a clapper of 7, 3 a clapper of 9. */
    private static BellLoft loft() {
        BellLoft x = new BellLoft();
        x.hang(0, BELL, 10);
        x.hang(1, GREAT, 100);
        x.hang(2, CLAPPER, 7);
        x.hang(3, CLAPPER, 9);
        return x;
    }

    /** The same, with the clappers fitted: hooks 2 and 3 hold nothing. */
    private static BellLoft fittedLoft() {
        BellLoft x = loft();
        x.fit(0, 2);
        x.fit(1, 3);
        return x;
    }

    /** The fitted loft with its bells in places 0 and 1 of a frame of 3, and a change 0, 1, 2, 3. */
    private static BellLoft framedLoft() {
        BellLoft x = fittedLoft();
        x.frame(3, false);
        x.lay(0, 0);
        x.lay(1, 1);
        x.change(4);
        for (int i = 0; i < 4; i++) {
            x.call(i, i);
        }
        return x;
    }

    private static void ringTimes(BellLoft x, int hook, int times) {
        for (int i = 0; i < times; i++) {
            x.ring(hook);
        }
    }

    private static void noReasonTold(BellLoft x) {
        for (int reason = 1; reason <= 6; reason++) {
            due("reasons(" + reason + ") after OUTSIDE", x.reasons(reason), 0);
        }
    }

    private static void newObject() {
        BellLoft x = new BellLoft();
        for (int hook = 0; hook < 10; hook++) {
            for (int what = 0; what < 6; what++) {
                due("about(" + hook + ", " + what + ")", x.about(hook, what), 0);
            }
        }
        for (int what = 0; what < 3; what++) {
            due("away(" + what + ")", x.away(what), 0);
        }
        due("level()", x.level(), 0);
        noReasonTold(x);
        due("size()", x.size(), NOTHING);
        due("call(0, 0)", x.call(0, 0), NOTHING);
        due("marked(0, 0)", x.marked(0, 0), NOTHING);
        BellLoft y = new BellLoft();
        x.hang(0, BELL, 5);
        due("about(0, 0) of another object", y.about(0, 0), 0);
        due("reasons(1) of another object", y.reasons(1), 0);
    }

    private static void hang() {
        BellLoft x = new BellLoft();
        due("hang(0, 1, 1)", x.hang(0, BELL, 1), 0);
        due("hang(0, 2, 1000)", x.hang(0, GREAT, 1000), BELL);
        due("weigh(0)", x.weigh(0), 1000);
        due("hang(0, 3, 5)", x.hang(0, CLAPPER, 5), GREAT);
        due("hang(0, 0, -7)", x.hang(0, 0, -7), CLAPPER);
        due("hang(0, 0, 1001)", x.hang(0, 0, 1001), 0);
        due("about(0, 0)", x.about(0, 0), 0);
        due("hang(9, 1, 5)", x.hang(9, BELL, 5), 0);
        due("weigh(9)", x.weigh(9), 5);
        BellLoft y = loft();
        due("hang(10, 1, 5)", y.hang(10, BELL, 5), OUTSIDE);
        due("hang(10, 0, 5)", y.hang(10, 0, 5), OUTSIDE);
        due("hang(-1, 1, 5)", y.hang(-1, BELL, 5), OUTSIDE);
        due("hang(0, 4, 5)", y.hang(0, 4, 5), OUTSIDE);
        due("hang(0, -1, 5)", y.hang(0, -1, 5), OUTSIDE);
        due("hang(0, 1, 0)", y.hang(0, BELL, 0), OUTSIDE);
        due("hang(0, 2, 1001)", y.hang(0, GREAT, 1001), OUTSIDE);
        due("hang(0, 3, -1)", y.hang(0, CLAPPER, -1), OUTSIDE);
        due("about(0, 0) after OUTSIDE", y.about(0, 0), BELL);
        due("weigh(0) after OUTSIDE", y.weigh(0), 10);
        noReasonTold(y);
    }

    private static void hangNewThing() {
        BellLoft x = fittedLoft();
        x.tune(1, 5);
        x.alarm(1, 4);
        x.ring(1);
        x.hang(1, GREAT, 100);
        for (int what = 2; what < 6; what++) {
            due("about(1, " + what + ") of a new bell", x.about(1, what), 0);
        }
        due("ring(1) of a new bell", x.ring(1), NOTHING);
    }

    private static void weigh() {
        BellLoft x = loft();
        due("weigh(0)", x.weigh(0), 10);
        due("weigh(1)", x.weigh(1), 100);
        due("weigh(2)", x.weigh(2), 7);
        due("weigh(9)", x.weigh(9), NOTHING);
        due("weigh(10)", x.weigh(10), OUTSIDE);
        due("weigh(-1)", x.weigh(-1), OUTSIDE);
        due("reasons(1)", x.reasons(1), 1);
    }

    private static void ring() {
        BellLoft x = fittedLoft();
        x.tune(1, 50);
        due("ring(0)", x.ring(0), 17);
        due("ring(1)", x.ring(1), 159);
        due("about(0, 2)", x.about(0, 2), 1);
        due("about(0, 4)", x.about(0, 4), 1);
        due("ring(2) of nothing", x.ring(2), NOTHING);
        due("ring(10)", x.ring(10), OUTSIDE);
        due("ring(-1)", x.ring(-1), OUTSIDE);
        BellLoft y = loft();
        due("ring(2) of a clapper", y.ring(2), KIND);
        due("about(2, 4) of a clapper that was rung", y.about(2, 4), 0);
        due("ring(0) without a clapper", y.ring(0), NOTHING);
        due("about(0, 2) without a clapper", y.about(0, 2), 1);
        y.alarm(0, 3);
        due("ring(0) with an alarm, without a clapper", y.ring(0), NOTHING);
        due("level()", y.level(), 0);
    }

    private static void ringTooOften() {
        BellLoft x = fittedLoft();
        for (int stroke = 1; stroke <= 5; stroke++) {
            due("ring(0), stroke " + stroke, x.ring(0), 17);
        }
        due("ring(0), stroke 6, no alarm", x.ring(0), NOTHING);
        x.alarm(0, 8);
        due("ring(0), stroke 7, alarm", x.ring(0), ALARM);
        due("level()", x.level(), 8);
        due("ring(0), stroke 8, alarm", x.ring(0), ALARM);
        due("about(0, 2)", x.about(0, 2), 8);
        due("about(0, 4)", x.about(0, 4), 5);
        due("about(0, 5)", x.about(0, 5), 8);
        BellLoft y = loft();
        y.alarm(1, 2);
        ringTimes(y, 1, 5);
        due("ring(1), stroke 6, alarm ahead of the clapper", y.ring(1), ALARM);
    }

    private static void hum() {
        BellLoft x = loft();
        due("hum(1)", x.hum(1), 0);
        x.tune(1, 33);
        due("hum(1) tuned", x.hum(1), 33);
        due("hum(0)", x.hum(0), KIND);
        due("hum(2)", x.hum(2), KIND);
        due("hum(4)", x.hum(4), NOTHING);
        due("hum(10)", x.hum(10), OUTSIDE);
        due("hum(-1)", x.hum(-1), OUTSIDE);
    }

    private static void tune() {
        BellLoft x = loft();
        due("tune(1, 1000)", x.tune(1, 1000), 1000);
        due("hum(1)", x.hum(1), 1000);
        due("tune(1, 1001)", x.tune(1, 1001), OUTSIDE);
        due("tune(1, -1)", x.tune(1, -1), OUTSIDE);
        due("hum(1) after OUTSIDE", x.hum(1), 1000);
        due("tune(1, 0)", x.tune(1, 0), 0);
        due("hum(1)", x.hum(1), 0);
        due("tune(0, 5)", x.tune(0, 5), KIND);
        due("tune(2, 5)", x.tune(2, 5), KIND);
        due("tune(4, 5)", x.tune(4, 5), NOTHING);
        due("tune(4, 1001)", x.tune(4, 1001), OUTSIDE);
        due("tune(10, 5)", x.tune(10, 5), OUTSIDE);
        due("tune(-1, 5)", x.tune(-1, 5), OUTSIDE);
    }

    private static void fit() {
        BellLoft x = loft();
        due("fit(0, 2)", x.fit(0, 2), 1);
        due("about(2, 0)", x.about(2, 0), 0);
        due("ring(0)", x.ring(0), 17);
        due("fit(0, 3)", x.fit(0, 3), 1);
        due("ring(0) with another clapper", x.ring(0), 19);
        due("about(0, 4)", x.about(0, 4), 1);
        due("about(0, 2)", x.about(0, 2), 2);
        due("fit(0, 2) of nothing", x.fit(0, 2), 0);
        due("ring(0) without a clapper", x.ring(0), NOTHING);
        due("about(0, 4) without a clapper", x.about(0, 4), 0);
        due("fit(0, 2) of nothing again", x.fit(0, 2), 0);
    }

    private static void fitWrongly() {
        BellLoft x = loft();
        due("fit(2, 3)", x.fit(2, 3), KIND);
        due("fit(2, 4)", x.fit(2, 4), KIND);
        due("fit(0, 1)", x.fit(0, 1), KIND);
        due("fit(1, 0)", x.fit(1, 0), KIND);
        due("fit(0, 0)", x.fit(0, 0), KIND);
        due("fit(2, 2)", x.fit(2, 2), KIND);
        due("fit(4, 0), KIND ahead of NOTHING", x.fit(4, 0), KIND);
        due("fit(4, 2)", x.fit(4, 2), NOTHING);
        due("fit(4, 5)", x.fit(4, 5), NOTHING);
        due("fit(4, 4)", x.fit(4, 4), NOTHING);
        due("fit(10, 2)", x.fit(10, 2), OUTSIDE);
        due("fit(-1, 2)", x.fit(-1, 2), OUTSIDE);
        due("fit(0, 10)", x.fit(0, 10), OUTSIDE);
        due("fit(0, -1)", x.fit(0, -1), OUTSIDE);
        due("about(2, 0) all the same", x.about(2, 0), CLAPPER);
        due("about(3, 0) all the same", x.about(3, 0), CLAPPER);
        due("about(0, 0) all the same", x.about(0, 0), BELL);
        due("reasons(1)", x.reasons(1), 3);
        due("reasons(2)", x.reasons(2), 7);
    }

    private static void alarm() {
        BellLoft x = loft();
        due("alarm(0, 9)", x.alarm(0, 9), 0);
        due("alarm(0, 1)", x.alarm(0, 1), 9);
        due("alarm(0, 10)", x.alarm(0, 10), OUTSIDE);
        due("alarm(0, -1)", x.alarm(0, -1), OUTSIDE);
        due("about(0, 5)", x.about(0, 5), 1);
        due("alarm(0, 0)", x.alarm(0, 0), 1);
        due("raise(0)", x.raise(0), NOTHING);
        due("alarm(0, 0)", x.alarm(0, 0), 0);
        due("alarm(1, 4)", x.alarm(1, 4), 0);
        due("about(1, 5)", x.about(1, 5), 4);
        due("alarm(2, 4)", x.alarm(2, 4), KIND);
        due("alarm(2, 0)", x.alarm(2, 0), KIND);
        due("alarm(4, 4)", x.alarm(4, 4), NOTHING);
        due("alarm(10, 4)", x.alarm(10, 4), OUTSIDE);
        due("alarm(-1, 4)", x.alarm(-1, 4), OUTSIDE);
        due("level()", x.level(), 0);
    }

    private static void raise() {
        BellLoft x = loft();
        due("raise(0)", x.raise(0), NOTHING);
        x.alarm(0, 3);
        due("raise(0) with an alarm", x.raise(0), ALARM);
        due("raise(0) again", x.raise(0), ALARM);
        due("about(0, 2)", x.about(0, 2), 0);
        due("raise(2)", x.raise(2), KIND);
        due("raise(4)", x.raise(4), NOTHING);
        due("raise(10)", x.raise(10), OUTSIDE);
        due("raise(-1)", x.raise(-1), OUTSIDE);
        due("reasons(6)", x.reasons(6), 2);
    }

    private static void level() {
        BellLoft x = loft();
        x.alarm(0, 3);
        x.alarm(1, 7);
        due("level()", x.level(), 0);
        x.raise(1);
        due("level()", x.level(), 7);
        x.raise(0);
        due("level()", x.level(), 3);
        x.alarm(0, 5);
        due("level() after a new alarm", x.level(), 3);
        x.raise(2);
        x.hang(0, 0, 0);
        due("level() after the bell is gone", x.level(), 3);
    }

    private static void frame() {
        BellLoft x = fittedLoft();
        due("frame(12, false)", x.frame(12, false), 12);
        due("lay(11, 0)", x.lay(11, 0), 1);
        due("frame(13, true)", x.frame(13, true), OUTSIDE);
        due("frame(-1, true)", x.frame(-1, true), SIZE);
        due("frame(-2147483648, true)", x.frame(Integer.MIN_VALUE, true), SIZE);
        due("frame(2147483647, true)", x.frame(Integer.MAX_VALUE, true), OUTSIDE);
        due("size() all the same", x.size(), 12);
        due("see(11) all the same", x.see(11), 10);
        due("lay(0, 0), not great all the same", x.lay(0, 0), 1);
        due("frame(12, true)", x.frame(12, true), 12);
        for (int place = 0; place < 12; place++) {
            due("see(" + place + ") in a new frame", x.see(place), NOTHING);
        }
        due("lay(0, 0) into a great frame", x.lay(0, 0), NARROW);
        due("frame(1, false)", x.frame(1, false), 1);
        due("lay(0, 0)", x.lay(0, 0), 1);
        due("frame(0, false)", x.frame(0, false), 0);
        due("see(0)", x.see(0), PLACE);
        due("reasons(4)", x.reasons(4), 2);
    }

    private static void size() {
        BellLoft x = new BellLoft();
        due("size()", x.size(), NOTHING);
        x.frame(5, true);
        due("size()", x.size(), 5);
        x.frame(0, true);
        due("size() of an empty frame", x.size(), 0);
        x.away(0);
        due("size() of none", x.size(), NOTHING);
        due("reasons(1)", x.reasons(1), 2);
    }

    private static void lay() {
        BellLoft x = loft();
        due("lay(0, 2), KIND ahead of NOTHING", x.lay(0, 2), KIND);
        due("lay(0, 0) without a frame", x.lay(0, 0), NOTHING);
        due("lay(0, 5) without a frame", x.lay(0, 5), NOTHING);
        x.frame(3, false);
        due("lay(0, 0)", x.lay(0, 0), 1);
        due("lay(2, 0)", x.lay(2, 0), 1);
        due("lay(1, 1)", x.lay(1, 1), 1);
        due("about(0, 0) hangs all the same", x.about(0, 0), BELL);
        due("lay(0, 5)", x.lay(0, 5), 0);
        due("see(0)", x.see(0), NOTHING);
        due("see(2)", x.see(2), 10);
        due("lay(3, 0)", x.lay(3, 0), PLACE);
        due("lay(3, 5)", x.lay(3, 5), PLACE);
        due("lay(-1, 0)", x.lay(-1, 0), PLACE);
        due("lay(3, 2), KIND ahead of PLACE", x.lay(3, 2), KIND);
        due("lay(2, 2)", x.lay(2, 2), KIND);
        due("see(2) after KIND", x.see(2), 10);
        due("lay(0, 10)", x.lay(0, 10), OUTSIDE);
        due("lay(0, -1)", x.lay(0, -1), OUTSIDE);
        due("lay(2147483647, 0)", x.lay(Integer.MAX_VALUE, 0), PLACE);
    }

    private static void layGreat() {
        BellLoft x = loft();
        x.frame(2, true);
        due("lay(0, 1)", x.lay(0, 1), 1);
        due("lay(0, 0)", x.lay(0, 0), NARROW);
        due("see(0) after NARROW", x.see(0), 100);
        due("lay(2, 0), PLACE ahead of NARROW", x.lay(2, 0), PLACE);
        due("lay(1, 2)", x.lay(1, 2), KIND);
        due("lay(0, 5)", x.lay(0, 5), 0);
        due("see(0)", x.see(0), NOTHING);
        due("reasons(3)", x.reasons(3), 1);
    }

    /** A laid bell is the hook's own one, and stays in its place when the hook gets another thing. */
    private static void layTheSameBell() {
        BellLoft x = framedLoft();
        x.lay(2, 0);
        due("strike(0)", x.strike(0), 17);
        due("strike(2)", x.strike(2), 17);
        due("about(0, 2)", x.about(0, 2), 2);
        x.hang(0, BELL, 500);
        due("see(0)", x.see(0), 10);
        due("strike(0) of the laid bell", x.strike(0), 17);
        due("about(0, 2) of the new bell", x.about(0, 2), 0);
        x.hang(0, 0, 0);
        due("see(2)", x.see(2), 10);
    }

    private static void see() {
        BellLoft x = loft();
        due("see(0) without a frame", x.see(0), NOTHING);
        due("see(-1) without a frame", x.see(-1), NOTHING);
        x.frame(2, false);
        x.lay(1, 1);
        due("see(1)", x.see(1), 100);
        due("see(0)", x.see(0), NOTHING);
        due("see(2)", x.see(2), PLACE);
        due("see(-1)", x.see(-1), PLACE);
        due("reasons(1)", x.reasons(1), 3);
        due("reasons(5)", x.reasons(5), 2);
    }

    private static void change() {
        BellLoft x = framedLoft();
        due("change(12)", x.change(12), 12);
        due("call(11, 99)", x.call(11, 99), 99);
        due("call(0, 1)", x.call(0, 1), 1);
        due("change(13)", x.change(13), OUTSIDE);
        due("change(-1)", x.change(-1), SIZE);
        due("call(11, 99) all the same", x.call(11, 99), 99);
        due("strike(0) all the same", x.strike(0), 109);
        due("change(1)", x.change(1), 1);
        due("strike(0) of a new change", x.strike(0), 17);
        due("call(1, 0)", x.call(1, 0), PLACE);
        due("change(12)", x.change(12), 12);
        due("chime(1), all 0", x.chime(1), NOTHING);
        due("about(0, 2)", x.about(0, 2), 6);
        due("change(0)", x.change(0), 0);
        due("strike(0)", x.strike(0), PLACE);
        due("change(-2147483648)", x.change(Integer.MIN_VALUE), SIZE);
        due("reasons(4)", x.reasons(4), 2);
    }

    private static void call() {
        BellLoft x = framedLoft();
        due("call(0, 1)", x.call(0, 1), 1);
        due("strike(0)", x.strike(0), 109);
        due("call(0, 99)", x.call(0, 99), 99);
        due("strike(0)", x.strike(0), PLACE);
        due("call(0, 0)", x.call(0, 0), 0);
        for (int number : FAR_OUT) {
            due("call(0, " + number + ")", x.call(0, number), OUTSIDE);
            due("call(-1, " + number + ")", x.call(-1, number), OUTSIDE);
            due("call(" + number + ", 0)", x.call(number, 0), PLACE);
        }
        due("strike(0) after OUTSIDE", x.strike(0), 17);
        due("call(4, 0)", x.call(4, 0), PLACE);
        x.away(1);
        due("call(0, 0) without a change", x.call(0, 0), NOTHING);
        due("call(-1, 0) without a change", x.call(-1, 0), NOTHING);
        due("call(0, 100) without a change", x.call(0, 100), OUTSIDE);
    }

    private static void strike() {
        BellLoft x = framedLoft();
        x.tune(1, 50);
        due("strike(0)", x.strike(0), 17);
        due("strike(1)", x.strike(1), 159);
        due("about(1, 2)", x.about(1, 2), 1);
        due("about(1, 4)", x.about(1, 4), 1);
        due("strike(2), no bell", x.strike(2), NOTHING);
        due("strike(3), no such place", x.strike(3), PLACE);
        due("strike(4)", x.strike(4), PLACE);
        due("strike(-1)", x.strike(-1), PLACE);
        x.fit(0, 5);
        due("strike(0) without a clapper", x.strike(0), NOTHING);
        due("about(0, 2)", x.about(0, 2), 2);
        ringTimes(x, 0, 3);
        due("strike(0) without an alarm", x.strike(0), NOTHING);
        x.alarm(0, 6);
        due("strike(0)", x.strike(0), ALARM);
        due("level()", x.level(), 6);
        x.away(0);
        due("strike(0) without a frame", x.strike(0), NOTHING);
        due("strike(4) without a frame", x.strike(4), PLACE);
        x.frame(3, false);
        x.away(1);
        due("strike(0) without a change", x.strike(0), NOTHING);
        due("strike(4) without a change", x.strike(4), NOTHING);
    }

    private static void chimeAll() {
        BellLoft x = framedLoft();
        due("chime(0)", x.chime(0), 2);
        due("reasons(1)", x.reasons(1), 1);
        due("reasons(5)", x.reasons(5), 1);
        x.call(0, 50);
        x.call(3, 0);
        due("chime(0), the first passed over", x.chime(0), 2);
        due("about(0, 2)", x.about(0, 2), 2);
        x.alarm(1, 4);
        ringTimes(x, 1, 3);
        due("chime(0), one alarm", x.chime(0), 1);
        due("level()", x.level(), 4);
        due("reasons(6)", x.reasons(6), 1);
        due("about(0, 2) after the alarm", x.about(0, 2), 3);
        x.away(0);
        due("chime(0) without a frame", x.chime(0), 0);
        due("reasons(1)", x.reasons(1), 7);
        x.change(0);
        due("chime(0) of an empty change", x.chime(0), 0);
        x.away(1);
        due("chime(0) without a change", x.chime(0), NOTHING);
        due("reasons(1)", x.reasons(1), 8);
    }

    private static void chimeToTheFirst() {
        BellLoft x = framedLoft();
        due("chime(1)", x.chime(1), NOTHING);
        due("about(0, 2)", x.about(0, 2), 1);
        due("about(1, 2)", x.about(1, 2), 1);
        due("reasons(1), once", x.reasons(1), 1);
        due("reasons(5), not reached", x.reasons(5), 0);
        x.call(2, 0);
        x.call(3, 1);
        due("chime(1), all rung", x.chime(1), 4);
        x.alarm(0, 2);
        x.alarm(1, 3);
        x.ring(0);
        due("chime(1)", x.chime(1), ALARM);
        due("level()", x.level(), 2);
        due("reasons(6), once", x.reasons(6), 1);
        due("about(1, 2)", x.about(1, 2), 4);
        x.call(0, 99);
        due("chime(1)", x.chime(1), PLACE);
        x.change(0);
        due("chime(1) of an empty change", x.chime(1), 0);
        due("chime(2)", x.chime(2), OUTSIDE);
        due("chime(-1)", x.chime(-1), OUTSIDE);
        x.away(1);
        due("chime(1) without a change", x.chime(1), NOTHING);
        due("chime(2) without a change", x.chime(2), OUTSIDE);
    }

    private static void peal() {
        BellLoft x = new BellLoft();
        due("peal(12, 12)", x.peal(12, 12), 144);
        due("mark(11, 11, 8)", x.mark(11, 11, 8), 8);
        due("peal(13, 1)", x.peal(13, 1), OUTSIDE);
        due("peal(1, 13)", x.peal(1, 13), OUTSIDE);
        due("peal(-1, 13)", x.peal(-1, 13), OUTSIDE);
        due("peal(13, -1)", x.peal(13, -1), OUTSIDE);
        due("peal(-1, 1)", x.peal(-1, 1), SIZE);
        due("peal(1, -1)", x.peal(1, -1), SIZE);
        due("peal(0, -1)", x.peal(0, -1), SIZE);
        due("peal(-1, -1)", x.peal(-1, -1), SIZE);
        due("reasons(4)", x.reasons(4), 4);
        due("marked(11, 11) all the same", x.marked(11, 11), 8);
        due("peal(12, 12)", x.peal(12, 12), 144);
        due("marked(11, 11) of a new peal", x.marked(11, 11), 0);
        due("peal(2, 5)", x.peal(2, 5), 10);
        due("marked(1, 4)", x.marked(1, 4), 0);
        due("marked(4, 1)", x.marked(4, 1), PLACE);
        due("peal(3, 0)", x.peal(3, 0), 0);
        due("marked(2, 0)", x.marked(2, 0), PLACE);
        due("peal(0, 3)", x.peal(0, 3), 0);
        due("marked(0, 2)", x.marked(0, 2), PLACE);
        due("away(2)", x.away(2), 1);
    }

    private static void mark() {
        BellLoft x = new BellLoft();
        due("mark(0, 0, 5) without a peal", x.mark(0, 0, 5), NOTHING);
        due("mark(-1, 0, 5) without a peal", x.mark(-1, 0, 5), NOTHING);
        due("mark(0, 0, 100) without a peal", x.mark(0, 0, 100), OUTSIDE);
        x.peal(2, 3);
        due("mark(0, 0, 99)", x.mark(0, 0, 99), 99);
        due("mark(1, 2, 1)", x.mark(1, 2, 1), 1);
        due("mark(0, 0, 100)", x.mark(0, 0, 100), OUTSIDE);
        due("mark(0, 0, -1)", x.mark(0, 0, -1), OUTSIDE);
        due("mark(5, 0, -1)", x.mark(5, 0, -1), OUTSIDE);
        due("marked(0, 0) after OUTSIDE", x.marked(0, 0), 99);
        due("mark(0, 0, 0)", x.mark(0, 0, 0), 0);
        due("marked(0, 0)", x.marked(0, 0), 0);
        due("mark(2, 0, 5)", x.mark(2, 0, 5), PLACE);
        due("mark(-1, 0, 5)", x.mark(-1, 0, 5), PLACE);
        due("mark(0, 3, 5)", x.mark(0, 3, 5), PLACE);
        due("mark(0, -1, 5)", x.mark(0, -1, 5), PLACE);
        due("mark(1, -1, 5)", x.mark(1, -1, 5), PLACE);
        due("reasons(5)", x.reasons(5), 5);
    }

    private static void marked() {
        BellLoft x = new BellLoft();
        due("marked(-1, 0) without a peal", x.marked(-1, 0), NOTHING);
        x.peal(12, 12);
        for (int i = 0; i < 12; i++) {
            for (int j = 0; j < 12; j++) {
                x.mark(i, j, (i * 12 + j) % 100);
            }
        }
        for (int i = 0; i < 12; i++) {
            for (int j = 0; j < 12; j++) {
                due("marked(" + i + ", " + j + ")", x.marked(i, j), (i * 12 + j) % 100);
            }
        }
        for (int far : FAR_OUT) {
            due("marked(" + far + ", 0)", x.marked(far, 0), PLACE);
            due("marked(0, " + far + ")", x.marked(0, far), PLACE);
            due("marked(" + far + ", " + far + ")", x.marked(far, far), PLACE);
        }
        due("marked(12, 0)", x.marked(12, 0), PLACE);
        due("marked(0, 12)", x.marked(0, 12), PLACE);
        due("reasons(5)", x.reasons(5), 14);
    }

    private static void away() {
        BellLoft x = framedLoft();
        x.peal(2, 2);
        due("away(3)", x.away(3), OUTSIDE);
        due("away(-1)", x.away(-1), OUTSIDE);
        due("away(0)", x.away(0), 1);
        due("away(0) again", x.away(0), 0);
        due("call(0, 0)", x.call(0, 0), 0);
        due("marked(0, 0)", x.marked(0, 0), 0);
        due("away(1)", x.away(1), 1);
        due("away(1) again", x.away(1), 0);
        due("marked(0, 0)", x.marked(0, 0), 0);
        due("away(2)", x.away(2), 1);
        due("away(2) again", x.away(2), 0);
        x.frame(0, false);
        x.change(0);
        x.peal(0, 0);
        for (int what = 0; what < 3; what++) {
            due("away(" + what + ") of an empty one", x.away(what), 1);
        }
        due("size()", x.size(), NOTHING);
        due("strike(0)", x.strike(0), NOTHING);
        due("marked(0, 0)", x.marked(0, 0), NOTHING);
        x.frame(3, false);
        due("see(0) of the frame after", x.see(0), NOTHING);
    }

    private static void aboutAll(BellLoft x, int hook, int[] want) {
        for (int what = 0; what < want.length; what++) {
            due("about(" + hook + ", " + what + ")", x.about(hook, what), want[what]);
        }
    }

    private static void about() {
        BellLoft x = fittedLoft();
        x.hang(2, CLAPPER, 8);
        x.tune(1, 44);
        x.alarm(0, 2);
        x.alarm(1, 3);
        ringTimes(x, 0, 3);
        ringTimes(x, 1, 6);
        aboutAll(x, 0, new int[] {BELL, 10, 3, 0, 3, 2});
        aboutAll(x, 1, new int[] {GREAT, 100, 6, 44, 5, 3});
        aboutAll(x, 2, new int[] {CLAPPER, 8, 0, 0, 0, 0});
        aboutAll(x, 3, new int[] {0, 0, 0, 0, 0, 0});
        x.fit(1, 5);
        aboutAll(x, 1, new int[] {GREAT, 100, 6, 44, 0, 3});
        due("about(10, 0)", x.about(10, 0), OUTSIDE);
        due("about(-1, 0)", x.about(-1, 0), OUTSIDE);
        due("about(0, 6)", x.about(0, 6), OUTSIDE);
        due("about(0, -1)", x.about(0, -1), OUTSIDE);
        due("about(3, 6) of nothing", x.about(3, 6), OUTSIDE);
        due("about(3, -1) of nothing", x.about(3, -1), OUTSIDE);
    }

    private static void reasons() {
        BellLoft x = loft();
        x.alarm(0, 1);
        int[] calls = {x.weigh(4), x.ring(2), x.hum(0), x.frame(1, true), x.lay(0, 0), x.lay(0, 0),
            x.lay(0, 0), x.change(-1), x.change(-1), x.change(-1), x.change(-1), x.see(1), x.see(1),
            x.see(1), x.see(1), x.see(1)};
        due("calls made", calls.length, 16);
        for (int i = 0; i < 6; i++) {
            x.raise(0);
        }
        for (int reason = 1; reason <= 6; reason++) {
            due("reasons(" + reason + ")", x.reasons(reason), reason);
        }
        due("reasons(0)", x.reasons(0), OUTSIDE);
        due("reasons(7)", x.reasons(7), OUTSIDE);
        due("reasons(-2147483648)", x.reasons(Integer.MIN_VALUE), OUTSIDE);
    }

    private static void run(int number) {
        promise = number;
        switch (number) {
            case 1 -> newObject();
            case 2 -> { hang(); hangNewThing(); }
            case 3 -> weigh();
            case 4 -> { ring(); ringTooOften(); }
            case 5 -> hum();
            case 6 -> tune();
            case 7 -> { fit(); fitWrongly(); }
            case 8 -> alarm();
            case 9 -> raise();
            case 10 -> level();
            case 11 -> frame();
            case 12 -> size();
            case 13 -> { lay(); layGreat(); layTheSameBell(); }
            case 14 -> see();
            case 15 -> change();
            case 16 -> call();
            case 17 -> strike();
            case 18 -> { chimeAll(); chimeToTheFirst(); }
            case 19 -> peal();
            case 20 -> mark();
            case 21 -> marked();
            case 22 -> away();
            case 23 -> about();
            default -> reasons();
        }
    }

    public static void main(String[] args) {
        for (int number = 1; number <= 24; number++) {
            run(number);
        }
        System.out.println(wrong == 0 ? "all answers are as due" : wrong + " answers are not as due");
        if (wrong != 0) {
            System.exit(1);
        }
    }
}
