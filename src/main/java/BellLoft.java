/**
 * A loft of bells: ten hooks for bells, great bells and clappers, a frame, a change and a peal.
 * A call that cannot be done answers OUTSIDE, or -10 less the reason why.
 */
public final class BellLoft {
    public static final int OUTSIDE = -1;

    private static final int NOTHING = 1;
    private static final int KIND = 2;
    private static final int NARROW = 3;
    private static final int SIZE = 4;
    private static final int PLACE = 5;
    private static final int ALARM = 6;
    private static final int LAST_REASON = 6;
    private static final int REASON_BASE = -10;

    private static final int NO_SORT = 0;
    private static final int BELL = 1;
    private static final int GREAT = 2;
    private static final int CLAPPER = 3;

    private static final int HOOKS = 10;
    private static final int LONGEST = 12;
    private static final int MAX_WEIGHT = 1000;
    private static final int MAX_HUM = 1000;
    private static final int MAX_LEVEL = 9;
    private static final int MAX_NUMBER = 99;
    private static final int QUIET_STROKES = 5;

    private static final int STOP_AT_FIRST = 1;

    /** The length of a frame, change or peal that is not there; 0 is the length of an empty one. */
    private static final int NONE = -1;

    private final Thing[] hooks;

    // The rows below are made once, at their longest, and used again by every new frame, change
    // and peal, so that a long run of calls makes no more of them.
    private final Bell[] places;
    private int placeCount;
    private boolean greatFrame;

    private final int[] numbers;
    private int numberCount;

    private final int[] marks;
    private int rowCount;
    private int columnCount;

    private final int[] told;
    private int latestLevel;

    public BellLoft() {
        hooks = new Thing[HOOKS];
        places = new Bell[LONGEST];
        placeCount = NONE;
        greatFrame = false;
        numbers = new int[LONGEST];
        numberCount = NONE;
        marks = new int[LONGEST * LONGEST];
        rowCount = NONE;
        columnCount = NONE;
        told = new int[LAST_REASON + 1];
        latestLevel = 0;
    }

    public int hang(int hook, int sort, int weight) {
        if (!isHook(hook) || !isWithin(sort, NO_SORT, CLAPPER)) {
            return OUTSIDE;
        }
        if (sort != NO_SORT && !isWithin(weight, 1, MAX_WEIGHT)) {
            return OUTSIDE;
        }
        int before = sortOf(hooks[hook]);
        hooks[hook] = newThing(sort, weight);
        return before;
    }

    public int weigh(int hook) {
        if (!isHook(hook)) {
            return OUTSIDE;
        }
        Thing thing = hooks[hook];
        return thing == null ? tell(NOTHING) : thing.weight;
    }

    public int ring(int hook) {
        if (!isHook(hook)) {
            return OUTSIDE;
        }
        Bell bell = bellOf(hooks[hook]);
        return bell == null ? tellWhyNot(hooks[hook]) : sound(bell);
    }

    public int hum(int hook) {
        if (!isHook(hook)) {
            return OUTSIDE;
        }
        GreatBell bell = greatBellOf(hooks[hook]);
        return bell == null ? tellWhyNot(hooks[hook]) : bell.hum;
    }

    public int tune(int hook, int hum) {
        if (!isHook(hook) || !isWithin(hum, 0, MAX_HUM)) {
            return OUTSIDE;
        }
        GreatBell bell = greatBellOf(hooks[hook]);
        if (bell == null) {
            return tellWhyNot(hooks[hook]);
        }
        bell.hum = hum;
        return hum;
    }

    public int fit(int bell, int clapper) {
        if (!isHook(bell) || !isHook(clapper)) {
            return OUTSIDE;
        }
        if (hooks[bell] instanceof Clapper || hooks[clapper] instanceof Bell) {
            return tell(KIND);
        }
        Bell fitted = bellOf(hooks[bell]);
        if (fitted == null) {
            return tell(NOTHING);
        }
        fitted.clapper = clapperOf(hooks[clapper]);
        hooks[clapper] = null;
        return fitted.clapper == null ? 0 : 1;
    }

    public int alarm(int hook, int level) {
        if (!isHook(hook) || !isWithin(level, 0, MAX_LEVEL)) {
            return OUTSIDE;
        }
        Bell bell = bellOf(hooks[hook]);
        if (bell == null) {
            return tellWhyNot(hooks[hook]);
        }
        int before = bell.alarmLevel;
        bell.alarmLevel = level;
        return before;
    }

    public int raise(int hook) {
        if (!isHook(hook)) {
            return OUTSIDE;
        }
        Bell bell = bellOf(hooks[hook]);
        return bell == null ? tellWhyNot(hooks[hook]) : goOff(bell);
    }

    public int level() {
        return latestLevel;
    }

    public int frame(int n, boolean great) {
        if (n > LONGEST) {
            return OUTSIDE;
        }
        if (n < 0) {
            return tell(SIZE);
        }
        clearPlaces();
        placeCount = n;
        greatFrame = great;
        return n;
    }

    public int size() {
        return placeCount == NONE ? tell(NOTHING) : placeCount;
    }

    public int lay(int place, int hook) {
        if (!isHook(hook)) {
            return OUTSIDE;
        }
        if (hooks[hook] instanceof Clapper) {
            return tell(KIND);
        }
        if (placeCount == NONE) {
            return tell(NOTHING);
        }
        if (!isPlace(place)) {
            return tell(PLACE);
        }
        Bell bell = bellOf(hooks[hook]);
        if (greatFrame && bell != null && greatBellOf(bell) == null) {
            return tell(NARROW);
        }
        places[place] = bell;
        return bell == null ? 0 : 1;
    }

    public int see(int place) {
        if (placeCount == NONE) {
            return tell(NOTHING);
        }
        if (!isPlace(place)) {
            return tell(PLACE);
        }
        Bell bell = places[place];
        return bell == null ? tell(NOTHING) : bell.weight;
    }

    public int change(int n) {
        if (n > LONGEST) {
            return OUTSIDE;
        }
        if (n < 0) {
            return tell(SIZE);
        }
        clearNumbers(numbers);
        numberCount = n;
        return n;
    }

    public int call(int i, int number) {
        if (!isWithin(number, 0, MAX_NUMBER)) {
            return OUTSIDE;
        }
        if (numberCount == NONE) {
            return tell(NOTHING);
        }
        if (!isNumber(i)) {
            return tell(PLACE);
        }
        numbers[i] = number;
        return number;
    }

    public int strike(int i) {
        if (numberCount == NONE) {
            return tell(NOTHING);
        }
        if (!isNumber(i)) {
            return tell(PLACE);
        }
        if (placeCount == NONE) {
            return tell(NOTHING);
        }
        int place = numbers[i];
        if (!isPlace(place)) {
            return tell(PLACE);
        }
        Bell bell = places[place];
        return bell == null ? tell(NOTHING) : sound(bell);
    }

    public int chime(int mode) {
        if (!isWithin(mode, 0, STOP_AT_FIRST)) {
            return OUTSIDE;
        }
        if (numberCount == NONE) {
            return tell(NOTHING);
        }
        int rung = 0;
        for (int i = 0; i < numberCount; i++) {
            int answer = strike(i);
            if (answer >= 0) {
                rung++;
            } else if (mode == STOP_AT_FIRST) {
                return answer;
            }
        }
        return rung;
    }

    public int peal(int n, int m) {
        if (n > LONGEST || m > LONGEST) {
            return OUTSIDE;
        }
        if (n < 0 || m < 0) {
            return tell(SIZE);
        }
        clearNumbers(marks);
        rowCount = n;
        columnCount = m;
        return n * m;
    }

    public int mark(int i, int j, int number) {
        if (!isWithin(number, 0, MAX_NUMBER)) {
            return OUTSIDE;
        }
        if (rowCount == NONE) {
            return tell(NOTHING);
        }
        if (!isMark(i, j)) {
            return tell(PLACE);
        }
        marks[i * LONGEST + j] = number;
        return number;
    }

    public int marked(int i, int j) {
        if (rowCount == NONE) {
            return tell(NOTHING);
        }
        if (!isMark(i, j)) {
            return tell(PLACE);
        }
        return marks[i * LONGEST + j];
    }

    public int away(int what) {
        int before;
        switch (what) {
            case 0:
                before = placeCount;
                placeCount = NONE;
                break;
            case 1:
                before = numberCount;
                numberCount = NONE;
                break;
            case 2:
                before = rowCount;
                rowCount = NONE;
                break;
            default:
                return OUTSIDE;
        }
        return before == NONE ? 0 : 1;
    }

    public int about(int hook, int what) {
        if (!isHook(hook) || !isWithin(what, 0, 5)) {
            return OUTSIDE;
        }
        Thing thing = hooks[hook];
        if (thing == null) {
            return 0;
        }
        switch (what) {
            case 0:
                return thing.sortNumber();
            case 1:
                return thing.weight;
            case 2:
                return thing.strokesSoFar();
            case 3:
                return thing.humOrNone();
            case 4:
                return thing.wearSoFar();
            default:
                return thing.alarmOrNone();
        }
    }

    public int reasons(int reason) {
        return isWithin(reason, NOTHING, LAST_REASON) ? told[reason] : OUTSIDE;
    }

    private int sound(Bell bell) {
        bell.strokes++;
        if (bell.strokes > QUIET_STROKES) {
            return goOff(bell);
        }
        Clapper clapper = bell.clapper;
        if (clapper == null) {
            return tell(NOTHING);
        }
        clapper.wear++;
        return bell.weight + clapper.weight + bell.humOrNone();
    }

    private int goOff(Bell bell) {
        if (bell.alarmLevel == 0) {
            return tell(NOTHING);
        }
        latestLevel = bell.alarmLevel;
        return tell(ALARM);
    }

    private int tell(int reason) {
        if (isWithin(reason, NOTHING, LAST_REASON)) {
            told[reason]++;
        }
        return REASON_BASE - reason;
    }

    /** For a thing that is not the one wanted: there is none, or it is of another kind. */
    private int tellWhyNot(Thing thing) {
        return tell(thing == null ? NOTHING : KIND);
    }

    private boolean isPlace(int place) {
        return place >= 0 && place < placeCount && place < places.length;
    }

    private boolean isNumber(int i) {
        return i >= 0 && i < numberCount && i < numbers.length;
    }

    private boolean isMark(int i, int j) {
        return i >= 0 && i < rowCount && i < LONGEST && j >= 0 && j < columnCount && j < LONGEST;
    }

    private void clearPlaces() {
        for (int i = 0; i < places.length; i++) {
            places[i] = null;
        }
    }

    private static void clearNumbers(int[] row) {
        for (int i = 0; i < row.length; i++) {
            row[i] = 0;
        }
    }

    private static boolean isHook(int hook) {
        return isWithin(hook, 0, HOOKS - 1);
    }

    private static boolean isWithin(int value, int least, int most) {
        return value >= least && value <= most;
    }

    private static Thing newThing(int sort, int weight) {
        switch (sort) {
            case BELL:
                return new Bell(weight);
            case GREAT:
                return new GreatBell(weight);
            case CLAPPER:
                return new Clapper(weight);
            default:
                return null;
        }
    }

    private static int sortOf(Thing thing) {
        return thing == null ? NO_SORT : thing.sortNumber();
    }

    private static Bell bellOf(Thing thing) {
        return thing instanceof Bell ? (Bell) thing : null;
    }

    private static GreatBell greatBellOf(Thing thing) {
        return thing instanceof GreatBell ? (GreatBell) thing : null;
    }

    private static Clapper clapperOf(Thing thing) {
        return thing instanceof Clapper ? (Clapper) thing : null;
    }

    /** What a hook can hold; a thing without some property answers 0 for it. */
    private abstract static class Thing {
        final int weight;

        Thing(int weight) {
            this.weight = weight;
        }

        abstract int sortNumber();

        abstract int wearSoFar();

        int strokesSoFar() {
            return 0;
        }

        int humOrNone() {
            return 0;
        }

        int alarmOrNone() {
            return 0;
        }
    }

    private static class Bell extends Thing {
        int strokes;
        Clapper clapper;
        int alarmLevel;

        Bell(int weight) {
            super(weight);
        }

        int sortNumber() {
            return BELL;
        }

        int strokesSoFar() {
            return strokes;
        }

        int wearSoFar() {
            return clapper == null ? 0 : clapper.wear;
        }

        int alarmOrNone() {
            return alarmLevel;
        }
    }

    private static final class GreatBell extends Bell {
        int hum;

        GreatBell(int weight) {
            super(weight);
        }

        int sortNumber() {
            return GREAT;
        }

        int humOrNone() {
            return hum;
        }
    }

    private static final class Clapper extends Thing {
        int wear;

        Clapper(int weight) {
            super(weight);
        }

        int sortNumber() {
            return CLAPPER;
        }

        int wearSoFar() {
            return wear;
        }
    }
}
