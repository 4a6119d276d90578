import java.util.function.ToIntFunction;

/** The edges of promises 1 to 14 and 19 to 21; those of the texts are in TextsTest, refused calls in RefusalsTest. */
public final class EdgesTest extends Checks {
    public static void main(String[] args) {
        newObjectHasSeenNothing();
        newObjectsShareNothing();
        placeIsLeftOverByANewTurn();
        countIsLeftOverByANewWrap();
        setReturnsThePreviousValue();
        setChangesASettingAlone();
        feedTakesItsWholeRange();
        feedReturnsTheStepsMade();
        feedGoesUpTo99999Ticks();
        turnTakesItsWholeRange();
        turnHasTheNextPairForFilterTicks();
        turnGoesUpTo99999Ticks();
        zeroReturnsTheCountThatWas();

        logGoesRound();
        logTellsWhatWasDone();
        countTellsEachNumber();
        speedHasItsLeastAndItsGreatest();
        rateIsOfThePeriodAndTurn();
        rateOfLongPeriods();
        noiseIsTheShareOfIllegalOnes();

        replayOfTheLogAlone();
        replayWithAnotherFilter();
        replayWithTheOtherSettingsOfNow();
        replayStartsAnew();
        bestFilterIsTheLeastOfSeveral();
        bestFilterOfTheLogAlone();
        wouldTellsTheNextTick();
        deedsAreThoseOfTheLog();

        undoHasAtMost6States();
        undoOfEachChange();
        wholeLogComesBack();
        undoLeavesPadAndSlots();
        undoAndThenAnotherChange();
        saveKeepsTwoSlots();
        restoreBringsEverythingBack();
        restoreIsAChange();
        end("EdgesTest");
    }

    // ---- What there is to see of an object

    /** What the calls that look can see, but for the pad and the history. */
    private static String sight(StepPairs x) {
        StringBuilder seen = new StringBuilder();
        for (int what = 0; what <= 14; what++) {
            seen.append(x.count(what)).append(' ');
        }
        for (int ago = 0; ago < 12; ago++) {
            seen.append(x.log(ago, 0)).append(x.log(ago, 1)).append(x.log(ago, 2)).append(' ');
        }
        for (int number = 0; number < 4; number++) {
            seen.append(x.would(number)).append(' ').append(x.deeds(number)).append(' ').append(x.replay(2, number)).append(' ');
        }
        return seen.append(x.speed(0)).append(' ').append(x.speed(1)).append(' ').append(x.rate()).append(' ').append(x.noise()).toString();
    }

    /** An illegal one with a slip, a step from place 0, and a pair that lasts a tick too short, all with the index 1. */
    private static StepPairs busy() {
        StepPairs x = with(TURN, 8, WRAP, 20, FILTER, 3, GATE, 7);
        x.turn(13);
        x.save(0);
        x.turn(2);
        x.feed(1, 1, 4);
        x.feed(0, 1, 3);
        x.feed(2, 1, 2);
        return x;
    }

    /** As busy() in all that is hidden, but with count and place 0. */
    private static StepPairs busyAt0() {
        StepPairs x = with(TURN, 8, WRAP, 20, FILTER, 3, GATE, 7);
        x.turn(-20);
        x.feed(0, 1, 4);
        x.feed(2, 1, 2);
        return x;
    }

    /** What can't be seen at once: how long the latest pair lasted, whether the index was 1, when the latest step was. */
    private static void goesOnAlike(String what, StepPairs x, StepPairs y) {
        for (int filter = 9; filter >= 1; filter--) {
            x.set(FILTER, filter);
            y.set(FILTER, filter);
            for (int pair = 0; pair <= 3; pair++) {
                due(what + ", would(" + pair + ") with FILTER " + filter, x.would(pair), y.would(pair));
            }
        }
        due(what + ", a step with the index", x.feed(2, 1, 1), y.feed(2, 1, 1));
        due(what + ", and goes on", sight(x).equals(sight(y)) ? 0 : 1, 0);
    }

    // ---- Promise 1

    private static void newObjectHasSeenNothing() {
        sentence("StepPairs(): Creates an encoder that has seen nothing");
        StepPairs x = new StepPairs();
        counts("new", x, 0, 0, 0, 0, 0, 0, 0, 0, 0, 0, 0, 40, 1000, 1, 10, 1, 0, 0);
        due("log", x.log(0, 0), NO_SUCH);
        due("speed", x.speed(0), 1000);
        due("period", x.speed(1), NONE);
        due("rate", x.rate(), 0);
        due("noise", x.noise(), NONE);
        for (int number = 0; number < 4; number++) {
            due("replay " + number, x.replay(1, number), 0);
            due("replay by 9 " + number, x.replay(9, number), 0);
            due("deeds " + number, x.deeds(number), 0);
            due("would " + ORDER[number], x.would(ORDER[number]), new int[] {0, 1, 3, 2}[number]);
        }
        due("bestFilter", x.bestFilter(0), 1);
        due("bestFilter's illegal ones", x.bestFilter(1), 0);
        due("fault", x.fault(), 0);
        due("wipe", x.wipe(), 0);
        due("carryOut", x.carryOut(), BAD_TEXT);
        due("undo", x.undo(), NOT_POSSIBLE);
        due("restore 0", x.restore(0), NOT_POSSIBLE);
        due("restore 1", x.restore(1), NOT_POSSIBLE);
    }

    private static void newObjectsShareNothing() {
        sentence("StepPairs(): Creates an encoder");
        StepPairs x = new StepPairs();
        x.set(TURN, 4);
        x.turn(9);
        x.save(0);
        put(x, "f1");
        StepPairs y = new StepPairs();
        counts("another one", y, 0, 0, 0, 0, 0, 0, 0, 0, 0, 0, 0, 40, 1000, 1, 10, 1, 0, 0);
        due("its slot", y.restore(0), NOT_POSSIBLE);
        y.set(WRAP, 20);
        counts("the first one", x, 0, 9, 9, 1, 1, 1, 9, 0, 0, 0, 9, 4, 1000, 1, 10, 1, 2, 2);
    }

    // ---- Promise 2

    private static void placeIsLeftOverByANewTurn() {
        sentence("set: The place is left over by a new TURN");
        for (int place : new int[] {0, 7, 8, 9, 15, 16, 17, 39}) {
            StepPairs x = new StepPairs();
            x.turn(40 + place);
            due("TURN", x.set(TURN, 8), 40);
            counts("the count stays, the place is left over of " + place, x, 1, 40 + place, place % 8);
            x.set(TURN, 400);
            counts("nothing comes back of " + place, x, 1, 40 + place, place % 8);
        }
        StepPairs y = new StepPairs();
        y.turn(11);
        y.set(WRAP, 10);
        y.set(FILTER, 9);
        y.set(GATE, 1);
        y.set(INDEX, 0);
        y.set(TURN, 12);
        due("no other setting, and no larger TURN", y.count(2), 11);
    }

    private static void countIsLeftOverByANewWrap() {
        sentence("set: the count (is left over) by a new WRAP");
        for (int count : new int[] {1, 9, 10, 11, 19, 20, 25, 99}) {
            StepPairs x = with(TURN, 400);
            x.turn(count);
            due("WRAP", x.set(WRAP, 10), 1000);
            counts("the count is left over of " + count + ", the place stays", x, 1, count % 10, count);
            x.set(WRAP, 9999);
            counts("nothing comes back of " + count, x, 1, count % 10, count);
        }
        StepPairs y = new StepPairs();
        y.turn(-1);
        due("999 by 1000", y.set(WRAP, 999), 1000);
        due("999 by 999", y.count(1), 0);
        StepPairs z = new StepPairs();
        z.turn(99);
        z.set(TURN, 4);
        z.set(FILTER, 9);
        z.set(GATE, 1);
        z.set(INDEX, 0);
        z.set(WRAP, 100);
        due("no other setting, and no larger WRAP", z.count(1), 99);
    }

    private static void setReturnsThePreviousValue() {
        sentence("set: Returns the previous value");
        StepPairs x = new StepPairs();
        due("the first value", x.set(INDEX, 0), 1);
        due("the least value, 0", x.set(INDEX, 2), 0);
        due("the value set", x.set(INDEX, 2), 2);
        due("the same value again", x.set(INDEX, 1), 2);
        due("each of them is a change", x.count(16), 4);
        due("and no tick", x.count(0), 0);
    }

    private static void setChangesASettingAlone() {
        sentence("set: Changes a setting");
        int[][] others = {{40, 8}, {100, 20}, {9, 3}, {99, 7}, {0, 1}};
        for (int setting = 0; setting < 5; setting++) {
            StepPairs x = busy();
            due("to another value", x.set(setting, others[setting][0]), others[setting][1]);
            due("and back", x.set(setting, others[setting][1]), others[setting][0]);
            due("all is as it was", sight(x).equals(sight(busy())) ? 0 : 1, 0);
            goesOnAlike("setting " + setting + " set to another value and back", x, busy());
        }
    }

    // ---- Promise 3

    private static void feedTakesItsWholeRange() {
        sentence("feed: pair: 0 to 3; index: 0 or 1; ticks: 1 to 99");
        for (int pair = 0; pair <= 3; pair++) {
            for (int index = 0; index <= 1; index++) {
                for (int ticks : new int[] {1, 2, 98, 99}) {
                    StepPairs x = new StepPairs();
                    due("feed", x.feed(pair, index, ticks), pair == 1 || pair == 2 ? 1 : 0);
                    counts("ticks and change", x, 15, 0, 1);
                    counts("ticks", x, 0, ticks);
                    for (int ago : new int[] {0, ticks - 1}) {
                        due("pair of the tick " + ago + " ago", x.log(ago, 0), pair);
                        due("index of the tick " + ago + " ago", x.log(ago, 1), index);
                    }
                    due("no tick more", x.log(ticks, 0), NO_SUCH);
                }
            }
        }
    }

    private static void feedReturnsTheStepsMade() {
        sentence("feed: Returns how many steps are made in them");
        StepPairs x = new StepPairs();
        due("none by the pair that is seen", x.feed(0, 0, 9), 0);
        due("one forwards", x.feed(1, 0, 9), 1);
        due("one backwards", x.feed(0, 0, 9), 1);
        due("none by an illegal one", x.feed(3, 0, 9), 0);
        x.set(FILTER, 9);
        due("none by 8 ticks", x.feed(1, 0, 8), 0);
        due("one by 9 ticks", x.feed(1, 0, 1), 1);
        due("none by more", x.feed(1, 0, 99), 0);
    }

    private static void feedGoesUpTo99999Ticks() {
        sentence("feed: NOT_POSSIBLE if there would be more than 99999 ticks");
        for (int ticks : new int[] {1, 2, 50, 99}) {
            StepPairs x = after(MOST_TICKS - ticks);
            if (ticks < 99) {
                due("one too many, " + ticks, x.feed(1, 1, ticks + 1), NOT_POSSIBLE);
                due("no tick", x.count(0), MOST_TICKS - ticks);
            }
            due("just not too many, " + ticks, x.feed(0, 0, ticks), 0);
            due("the most ticks", x.count(0), MOST_TICKS);
            due("not one more", x.feed(0, 0, 1), NOT_POSSIBLE);
            x.undo();
            due("undone, there is room again", x.feed(0, 0, ticks), 0);
        }
    }

    // ---- Promise 4

    private static void turnTakesItsWholeRange() {
        sentence("turn: steps: -99 to 99, not 0; below 0 backwards; returns the count then");
        for (int steps = -99; steps <= 99; steps++) {
            StepPairs x = new StepPairs();
            due("turn " + steps, x.turn(steps), steps == 0 ? BAD_VALUE : (steps + 1000) % 1000);
            counts("steps of turn " + steps, x, 4, steps > 0 ? 1 : steps < 0 ? 2 : 0, Math.max(steps, 0), Math.max(-steps, 0), 0);
            counts("ticks of turn " + steps, x, 0, Math.abs(steps));
        }
        StepPairs x = with(WRAP, 10);
        due("the count wraps forwards", x.turn(10), 0);
        due("the count wraps backwards", x.turn(-11), 9);
    }

    private static void turnHasTheNextPairForFilterTicks() {
        sentence("turn: each step has the pair that comes next by the pair that is seen, for FILTER ticks, with the index 0");
        for (int filter = 1; filter <= 9; filter++) {
            for (int way = -1; way <= 1; way += 2) {
                StepPairs x = with(FILTER, filter);
                x.turn(5 * way);
                due("ticks by FILTER " + filter, x.count(0), 5 * filter);
                for (int step = 0; step < 5; step++) {
                    int pair = ORDER[(4 - step) * way + way & 3];
                    int first = (step + 1) * filter - 1;
                    due("the first tick's pair", x.log(first, 0), pair);
                    due("the last tick's pair", x.log(step * filter, 0), pair);
                    due("the step is made in the last tick", x.log(step * filter, 2), way == 1 ? 1 : 2);
                }
                due("one step for each", x.deeds(0), 5 * (filter - 1));
            }
        }
        StepPairs y = with(FILTER, 4);
        y.feed(1, 1, 3);
        y.turn(1);
        due("ticks ahead of it count", y.log(3, 2), 1);
        due("but it has FILTER ticks", y.count(0), 7);
        due("with the index 0", y.log(3, 1), 0);
        y.feed(3, 0, 3);
        y.feed(0, 0, 3);
        due("by the pair that is seen, not by the latest", y.turn(-1), 0);
        counts("by the pair that is seen, not by the latest", y, 3, 0, 2, 1, 1, 0);
        StepPairs z = new StepPairs();
        z.feed(3, 0, 1);
        due("from a pair that came by an illegal one", z.turn(1), 1);
        due("from a pair that came by an illegal one", z.count(3), 2);
    }

    private static void turnGoesUpTo99999Ticks() {
        sentence("turn: NOT_POSSIBLE if there would be more than 99999 ticks");
        for (int way = -1; way <= 1; way += 2) {
            StepPairs x = after(MOST_TICKS - 18);
            due("one step too many", x.turn(3 * way), NOT_POSSIBLE);
            due("the most steps are too many", x.turn(99 * way), NOT_POSSIBLE);
            counts("no step, no tick", x, 0, MOST_TICKS - 18, 0, 0);
            due("just not too many", x.turn(2 * way), way == 1 ? 2 : 998);
            due("the most ticks", x.count(0), MOST_TICKS);
            due("not one more", x.turn(way), NOT_POSSIBLE);
            StepPairs y = after(MOST_TICKS - 8);
            due("one tick too few for a step", y.turn(way), NOT_POSSIBLE);
            y.set(FILTER, 8);
            due("just enough for a step", y.turn(way), way == 1 ? 1 : 999);
            due("the most ticks", y.count(0), MOST_TICKS);
            StepPairs z = after(MOST_TICKS - 99);
            z.set(FILTER, 1);
            due("99 steps", z.turn(99 * way), way == 1 ? 99 : 901);
            due("the most ticks", z.count(0), MOST_TICKS);
        }
    }

    // ---- Promise 5

    private static void zeroReturnsTheCountThatWas() {
        sentence("zero: The count and the place become 0; returns the count that was");
        StepPairs x = new StepPairs();
        due("of a new one", x.zero(), 0);
        x.turn(-1);
        due("the greatest count", x.zero(), 999);
        counts("count and place alone", x, 0, 1, 0, 0, 2, 2, 0, 1, 0, 0, 1, 40, 1000, 1, 10, 1, 0, 3);
        due("again", x.zero(), 0);
        x.turn(45);
        due("a count alone is told", x.zero(), 45);
        counts("both are 0", x, 1, 0, 0);
        due("the count goes on from 0", x.turn(-1), 999);
        due("and so does the place", x.count(2), 39);
        StepPairs y = new StepPairs();
        y.feed(1, 0, 3);
        y.feed(3, 0, 1);
        y.zero();
        due("the period stays", y.speed(1), 3);
        due("the gate stays", y.speed(0), 1002);
        due("the log stays", y.deeds(1), 2);
        due("the next step has a period", y.feed(2, 0, 1), 1);
        due("the next step has a period", y.speed(1), 1);
        StepPairs z = busyAt0();
        due("nothing to do", z.zero(), 0);
        due("all is as it was", sight(z).equals(sight(busyAt0())) ? 0 : 1, 0);
        goesOnAlike("count and place alone", z, busyAt0());
        StepPairs w = busy();
        w.zero();
        counts("slips and all else stay", w, 3, 0, 2, 15, 1, 1, 1);
    }

    // ---- Promise 6

    /** A row of ticks, three of each: its pairs, its indexes, and what is done in them with FILTER 1. */
    private static int rowOf(int tick, int what) {
        int group = tick / 3;
        int pair = group * 7 / 4 & 3;
        if (what == 0) {
            return pair;
        }
        if (what == 1) {
            return group % 5 == 0 ? 1 : 0;
        }
        int before = group == 0 ? 0 : (group - 1) * 7 / 4 & 3;
        int along = (pair ^ pair >> 1) - (before ^ before >> 1) & 3;
        return tick % 3 != 0 ? 0 : new int[] {0, 1, 3, 2}[along];
    }

    private static StepPairs withRows(int ticks) {
        StepPairs x = new StepPairs();
        for (int tick = 0; tick < ticks; tick += 3) {
            x.feed(rowOf(tick, 0), rowOf(tick, 1), 3);
        }
        return x;
    }

    private static void hasRows(String what, StepPairs x, int ticks, int part) {
        for (int ago = 0; ago < 200; ago++) {
            due(what + ", " + ago + " ago", x.log(ago, part), rowOf(ticks - 1 - ago, part));
        }
    }

    private static void logGoesRound() {
        sentence("log: ago: 0 for the latest one; NO_SUCH if there is no such tick");
        for (int ticks : new int[] {0, 3, 198, 201, 399, 402, 600}) {
            for (int what = 0; what <= 2; what++) {
                StepPairs x = withRows(ticks);
                int logged = Math.min(ticks, 200);
                due("ticks in the log of " + ticks, x.count(9), logged);
                for (int ago = 0; ago < logged; ago++) {
                    due(ticks + " ticks, " + ago + " ago, " + what, x.log(ago, what), rowOf(ticks - 1 - ago, what));
                }
                due("one older than the oldest of " + ticks, x.log(logged, what), NO_SUCH);
                due("one later than the latest", x.log(-1, what), NO_SUCH);
            }
        }
    }

    private static void logTellsWhatWasDone() {
        sentence("log: what: 2 what the encoder did in it: 0 nothing, 1 a step forwards, 2 a step backwards, 3 an illegal one");
        StepPairs x = with(FILTER, 2);
        x.feed(1, 0, 3);
        x.feed(0, 1, 2);
        x.feed(3, 0, 2);
        int[] deeds = {3, 0, 2, 0, 0, 1, 0};
        for (int ago = 0; ago < 7; ago++) {
            due("what was done " + ago + " ago", x.log(ago, 2), deeds[ago]);
        }
        x.set(FILTER, 1);
        x.zero();
        due("later settings change nothing of it", x.log(6, 2), 0);
    }

    // ---- Promise 7

    private static void countTellsEachNumber() {
        sentence("count: what: 0 ticks so far, 1 the count, 2 the place, 3 the pair that is seen, ... 16 how many changes can be undone");
        StepPairs x = with(TURN, 16, WRAP, 30, FILTER, 2, GATE, 20, INDEX, 1);
        x.turn(51);
        x.turn(-4);
        x.feed(1, 1, 2);
        x.feed(2, 0, 2);
        put(x, "1;2;3");
        counts("each number", x, 0, 114, 17, 0, 2, 2, 51, 4, 2, 1, 114, 16, 30, 2, 20, 1, 5, 6);
        due("one below", x.count(-1), BAD_VALUE);
        due("one above", x.count(17), BAD_VALUE);
    }

    // ---- Promise 8

    private static void speedHasItsLeastAndItsGreatest() {
        sentence("speed: what: 0 by the gate, and 1000, 1 the period (NONE)");
        StepPairs x = with(GATE, 99);
        x.turn(99);
        due("the greatest", x.speed(0), 1099);
        due("the least period", x.speed(1), 1);
        x.turn(-99);
        due("the least", x.speed(0), 901);
        x.turn(50);
        due("50 less 49", x.speed(0), 1001);
        x.turn(-1);
        due("50 less 49, all others out", x.speed(0), 1001);
        due("no period", x.speed(1), NONE);
        due("below", x.speed(-1), BAD_VALUE);
        due("above", x.speed(2), BAD_VALUE);
    }

    // ---- Promise 9

    private static void rateIsOfThePeriodAndTurn() {
        sentence("rate: the bits of 1.0 (forwards) or -1.0 (backwards) divided by the product of the period and TURN");
        StepPairs x = with(TURN, 4);
        due("no step: 0", x.rate(), 0L);
        x.turn(1);
        due("one step: 0", x.rate(), 0L);
        x.turn(1);
        due("a quarter of a turn", x.rate(), 0x3FD0000000000000L);
        x.turn(-1);
        due("two ways: 0", x.rate(), 0L);
        x.turn(-1);
        due("a quarter of a turn backwards", x.rate(), 0xBFD0000000000000L);
        x.set(TURN, 400);
        due("by the TURN of now", x.rate(), Double.doubleToLongBits(-1.0 / 400.0));
        x.feed(3 - x.count(3), 0, 9);
        due("an illegal one changes nothing", x.rate(), Double.doubleToLongBits(-1.0 / 400.0));
        for (int turn = 4; turn <= 400; turn += 4) {
            StepPairs z = with(TURN, turn);
            z.turn(2);
            due("a period of 1, TURN " + turn, z.rate(), Double.doubleToLongBits(1.0 / (double) turn));
            StepPairs y = with(TURN, turn);
            y.feed(2, 0, 3);
            y.feed(3, 0, 1);
            due("a period of 3, TURN " + turn, y.rate(), Double.doubleToLongBits(-1.0 / (3.0 * turn)));
        }
    }

    private static void rateOfLongPeriods() {
        sentence("rate: divided by the product of the period and TURN, as a double");
        StepPairs x = with(TURN, 400);
        x.feed(1, 0, 1);
        feedOften(x, 1, 99 * 400);
        x.feed(3, 0, 1);
        due("the period", x.speed(1), 39601);
        due("a slow turn", x.rate(), Double.doubleToLongBits(1.0 / (39601.0 * 400.0)));
        x.feed(2, 0, 1);
        due("and a fast one", x.rate(), Double.doubleToLongBits(1.0 / 400.0));
    }

    // ---- Promise 10

    private static void noiseIsTheShareOfIllegalOnes() {
        sentence("noise: the share of illegal ones among all changes of the pair that is seen; NONE without changes");
        StepPairs x = with(FILTER, 2);
        due("no tick", x.noise(), NONE);
        x.feed(0, 1, 99);
        feedPairs(x, 3, 2, 1);
        due("ticks without changes", x.noise(), NONE);
        x.feed(3, 0, 2);
        due("one of one", x.noise(), 0x3F800000);
        x.turn(1);
        due("one of two, forwards", x.noise(), 0x3F000000);
        x.turn(-2);
        due("one of four, backwards", x.noise(), 0x3E800000);
        StepPairs y = new StepPairs();
        y.turn(-1);
        due("none of one", y.noise(), 0);
        for (int illegal = 1; illegal <= 100; illegal++) {
            y.feed(3 - y.count(3), 0, 1);
            due(illegal + " of " + (illegal + 1), y.noise(), Float.floatToIntBits((float) illegal / (float) (illegal + 1)));
        }
        StepPairs w = new StepPairs();
        for (int i = 0; i < 10; i++) {
            carryOut(w, filled("3,0,", 79));
            due("all are illegal", w.noise(), 0x3F800000);
        }
        w.turn(40);
        due("more than the log has", w.noise(), Float.floatToIntBits(400.0f / 440.0f));
        StepPairs z = after(99792);
        z.feed(3 - z.count(3), 0, 9);
        due("1 of 11089", z.noise(), Float.floatToIntBits(1.0f / 11089.0f));
    }

    // ---- Promise 11

    private static void replays(String what, StepPairs x, int filter, int... wanted) {
        for (int number = 0; number < wanted.length; number++) {
            due(what + ", replay(" + filter + ", " + number + ")", x.replay(filter, number), wanted[number]);
        }
    }

    private static void replayOfTheLogAlone() {
        sentence("replay: an encoder that had seen the ticks of the log alone");
        StepPairs x = new StepPairs();
        replays("no tick", x, 1, 0, 0, 0, 0);
        x.turn(99);
        x.turn(99);
        x.turn(2);
        replays("200 ticks", x, 1, 200, 0, 0, 200);
        x.turn(1);
        replays("201 ticks, the first one is an illegal one now", x, 1, 199, 0, 1, 199);
        x.turn(1);
        replays("202 ticks, the first one is backwards now", x, 1, 199, 1, 0, 198);
        x.turn(1);
        replays("203 ticks, the first one is no change now", x, 1, 199, 0, 0, 199);
        x.turn(-99);
        x.turn(-99);
        x.turn(-3);
        replays("backwards, the first one forwards", x, 1, 1, 199, 0, 802);
        x.zero();
        replays("zero() is no tick", x, 1, 1, 199, 0, 802);
    }

    private static void replayWithAnotherFilter() {
        sentence("replay: with another FILTER; filter: 1 to 9");
        StepPairs x = with(FILTER, 4);
        int[] row = {1, 3, 2, 0, 1, 3, 2, 0, 1};
        for (int i = 0; i < 9; i++) {
            x.feed(row[i], 0, i + 1);
        }
        int[] forwards = {9, 7, 6, 5, 5, 3, 2, 1, 1};
        int[] backwards = {0, 0, 1, 0, 0, 0, 1, 0, 0};
        int[] illegal = {0, 1, 0, 0, 0, 1, 0, 0, 0};
        for (int filter = 1; filter <= 9; filter++) {
            int at = filter - 1;
            replays("rows of 1 to 9", x, filter, forwards[at], backwards[at], illegal[at], forwards[at] - backwards[at]);
        }
        counts("the FILTER stays, and so do the counts", x, 5, 5, 0, 0);
        due("the FILTER stays", x.count(12), 4);
        x.set(FILTER, 9);
        replays("the FILTER of now is not used", x, 1, 9, 0, 0, 9);
    }

    private static void replayWithTheOtherSettingsOfNow() {
        sentence("replay: and the other settings of now");
        StepPairs x = new StepPairs();
        x.turn(25);
        x.turn(-5);
        replays("WRAP 1000", x, 1, 25, 5, 0, 20);
        x.set(WRAP, 10);
        replays("WRAP 10", x, 1, 25, 5, 0, 0);
        x.set(WRAP, 12);
        replays("WRAP 12", x, 1, 25, 5, 0, 8);
        x.turn(-99);
        replays("below 0", x, 1, 25, 104, 0, 5);
        StepPairs y = new StepPairs();
        y.turn(5);
        y.feed(3, 1, 1);
        y.turn(2);
        replays("INDEX 1", y, 1, 8, 0, 0, 8);
        y.set(INDEX, 2);
        replays("INDEX 2", y, 1, 8, 0, 0, 2);
        due("the count itself stays", y.count(1), 8);
        y.set(INDEX, 0);
        replays("INDEX 0", y, 1, 8, 0, 0, 8);
    }

    private static void replayStartsAnew() {
        sentence("replay: that had seen the ticks of the log alone (0 is seen at first, and nothing is ahead of the first tick)");
        StepPairs x = with(INDEX, 2);
        x.feed(0, 1, 1);
        x.feed(1, 1, 99);
        x.feed(1, 1, 99);
        x.feed(1, 1, 1);
        replays("the first tick is in the log", x, 1, 1, 0, 0, 1);
        x.feed(1, 1, 1);
        due("the index did not rise there", x.count(1), 1);
        replays("it did for one that saw the log alone", x, 1, 1, 0, 0, 0);
        x.feed(3, 1, 1);
        replays("it rises once", x, 1, 2, 0, 0, 1);
        StepPairs y = with(FILTER, 3);
        y.feed(1, 0, 3);
        y.feed(0, 1, 99);
        y.feed(0, 1, 99);
        replays("two ticks of pair 1 are left", y, 2, 1, 1, 0, 0);
        replays("three of them were needed", y, 3, 0, 0, 0, 0);
        replays("asked again", y, 2, 1, 1, 0, 0);
    }

    // ---- Promise 12

    private static void bestFilters(String what, StepPairs x, int filter, int illegal) {
        due(what + ", the setting", x.bestFilter(0), filter);
        due(what + ", the illegal ones", x.bestFilter(1), illegal);
    }

    private static void bestFilterIsTheLeastOfSeveral() {
        sentence("bestFilter: the FILTER, 1 to 9, with the fewest illegal ones, of several the least one");
        for (int ticks = 1; ticks <= 9; ticks++) {
            StepPairs x = new StepPairs();
            x.feed(3, 0, ticks);
            bestFilters("pair 3 for " + ticks + " ticks", x, ticks < 9 ? ticks + 1 : 1, ticks < 9 ? 0 : 1);
        }
        StepPairs y = new StepPairs();
        bestFilters("no tick", y, 1, 0);
        y.feed(3, 0, 3);
        y.feed(0, 0, 9);
        y.feed(3, 0, 5);
        y.feed(0, 0, 9);
        y.feed(3, 0, 9);
        due("by 1", y.replay(1, 2), 5);
        due("by 4", y.replay(4, 2), 3);
        bestFilters("one that stays by each of them", y, 6, 1);
        due("nothing changes", y.count(12), 1);
        y.set(FILTER, 9);
        bestFilters("the FILTER of now is not used", y, 6, 1);
        StepPairs z = new StepPairs();
        z.feed(1, 0, 9);
        z.feed(0, 0, 1);
        z.feed(2, 0, 9);
        bestFilters("a longer one may have more", z, 1, 0);
        due("a longer one has more", z.replay(2, 2), 1);
    }

    private static void bestFilterOfTheLogAlone() {
        sentence("bestFilter: by which such an encoder would have had the fewest illegal ones");
        StepPairs x = new StepPairs();
        x.feed(3, 0, 9);
        x.feed(1, 0, 99);
        bestFilters("in the log", x, 1, 1);
        x.feed(1, 0, 92);
        bestFilters("200 ticks", x, 1, 1);
        x.feed(1, 0, 1);
        bestFilters("8 of its ticks are in the log", x, 9, 0);
        x.feed(1, 0, 8);
        bestFilters("none of its ticks is in the log", x, 1, 0);
    }

    // ---- Promise 13

    private static void wouldTellsTheNextTick() {
        sentence("would: what a tick with a pair would do now (0 to 3, as told for log())");
        for (int filter = 1; filter <= 9; filter++) {
            for (int from = 0; from < 4; from++) {
                for (int along = 0; along < 4; along++) {
                    StepPairs x = with(FILTER, filter);
                    x.turn(4 + from);
                    int pair = ORDER[from + along & 3];
                    for (int tick = 1; tick <= filter; tick++) {
                        int due = tick < filter ? 0 : new int[] {0, 1, 3, 2}[along];
                        due("FILTER " + filter + ", along " + along + ", tick " + tick, x.would(pair), due);
                        due("asked again", x.would(pair), due);
                        x.feed(pair, 0, 1);
                        due("and it does so", x.log(0, 2), due);
                    }
                    due("seen now", x.would(pair), 0);
                }
            }
        }
        StepPairs y = with(FILTER, 3);
        y.feed(1, 0, 2);
        int[] due = {0, 1, 0, 0};
        for (int pair = 0; pair < 4; pair++) {
            due("only the pair that lasts, " + pair, y.would(pair), due[pair]);
        }
        y.set(FILTER, 4);
        due("by the FILTER of now", y.would(1), 0);
        StepPairs z = after(MOST_TICKS);
        z.set(FILTER, 1);
        due("at the most ticks, too", z.would(1), 1);
        counts("no tick", z, 0, MOST_TICKS, 0);
    }

    // ---- Promise 14

    private static void deedsAreThoseOfTheLog() {
        sentence("deeds: in how many ticks of the log the encoder did something; deed: 0 to 3, as told for log()");
        StepPairs x = new StepPairs();
        for (int deed = 0; deed <= 3; deed++) {
            due("no tick, " + deed, x.deeds(deed), 0);
        }
        x.feed(1, 0, 1);
        x.feed(0, 0, 2);
        x.feed(3, 0, 3);
        x.feed(2, 0, 4);
        x.feed(2, 0, 99);
        x.feed(2, 0, 91);
        int[][] wanted = {{196, 2, 1, 1}, {197, 1, 1, 1}, {198, 1, 0, 1}, {198, 1, 0, 1}};
        for (int more = 0; more < 4; more++) {
            for (int deed = 0; deed <= 3; deed++) {
                due((200 + more) + " ticks, deed " + deed, x.deeds(deed), wanted[more][deed]);
            }
            x.feed(2, 0, 1);
        }
    }

    // ---- Promise 19

    private static void undoHasAtMost6States() {
        sentence("undo: A history of at most 6 states is kept: when one more is recorded, the oldest one is dropped");
        for (int changes = 0; changes <= 16; changes++) {
            StepPairs x = new StepPairs();
            for (int i = 1; i <= changes; i++) {
                x.turn(1);
                due("after change " + i, x.count(16), Math.min(i, 6));
            }
            int kept = Math.min(changes, 6);
            for (int left = kept - 1; left >= 0; left--) {
                due("of " + changes + ", then " + left, x.undo(), left);
                due("that many can be undone", x.count(16), left);
                due("it is as it was", x.count(1), changes - kept + left);
            }
            due("none is left of " + changes, x.undo(), NOT_POSSIBLE);
            due("nothing is undone", x.count(1), changes - kept);
        }
    }

    private static void undoOfEachChange() {
        sentence("undo: everything except the pad, the slots and the history is as it was before it");
        undoOf("set of TURN", x -> x.set(TURN, 4));
        undoOf("set of WRAP", x -> x.set(WRAP, 10));
        undoOf("set of FILTER", x -> x.set(FILTER, 1));
        undoOf("set of GATE", x -> x.set(GATE, 1));
        undoOf("set of INDEX", x -> x.set(INDEX, 0));
        undoOf("set to what it is", x -> x.set(INDEX, 1));
        undoOf("feed", x -> x.feed(0, 0, 99));
        undoOf("feed with the index", x -> x.feed(3, 1, 99));
        undoOf("feed of a tick", x -> x.feed(2, 0, 1));
        undoOf("turn", x -> x.turn(98));
        undoOf("turn backwards", x -> x.turn(-1));
        undoOf("zero", x -> x.zero());
        undoOf("carryOut", x -> carryOut(x, "f9;n1;b2;3i*9,0;z;1*99"));
        undoOf("carryOut with an error", x -> carryOut(x, "f9;0*0"));
        undoOf("carryOut of no order", x -> carryOut(x, "f0"));
        undoOf("restore", x -> x.restore(0));
        undoOf("restore of what is", x -> x.save(1) + x.restore(1));
    }

    private static void undoOf(String what, ToIntFunction<StepPairs> change) {
        StepPairs x = busy();
        String before = sight(x);
        due(what + " is no error", Math.min(change.applyAsInt(x), 0), 0);
        due(what + " with a full history", x.count(16), 6);
        due(what + " undone", x.undo(), 5);
        due(what + " undone: " + sight(x) + " was " + before, sight(x).equals(before) ? 0 : 1, 0);
        goesOnAlike(what + " undone", x, busy());
    }

    private static void wholeLogComesBack() {
        sentence("undo, restore: everything is as it was (all 200 ticks of the log)");
        for (int ticks : new int[] {201, 399, 402}) {
            for (int part = 0; part <= 2; part++) {
                StepPairs x = withRows(ticks);
                x.turn(99);
                x.turn(99);
                x.turn(99);
                x.undo();
                x.undo();
                x.undo();
                hasRows("undone, " + ticks + " ticks", x, ticks, part);
                StepPairs y = withRows(ticks);
                y.save(0);
                y.turn(-99);
                y.turn(-99);
                y.turn(-99);
                y.restore(0);
                hasRows("restored, " + ticks + " ticks", y, ticks, part);
            }
        }
    }

    private static void undoLeavesPadAndSlots() {
        sentence("undo: everything except the pad, the slots and the history");
        StepPairs x = new StepPairs();
        x.turn(3);
        x.turn(3);
        x.save(0);
        put(x, "f1;f2");
        due("undo", x.undo(), 1);
        due("the pad stays", x.count(15), 5);
        due("the text stays", x.fault(), NONE);
        due("undo", x.undo(), 0);
        due("the slot stays", x.restore(0), 6);
        due("the text is carried out", x.carryOut(), 2);
        due("the text is carried out", x.count(1), 9);
        due("the pad does not come back", x.undo(), 1);
        counts("the pad does not come back", x, 15, 0, 1);
        due("put, wipe, save and fault record nothing", put(x, "0"), 1);
        x.fault();
        x.wipe();
        x.save(1);
        due("put, wipe, save and fault record nothing", x.count(16), 1);
        due("the latest change is the restore", x.undo(), 0);
        due("the latest change is the restore", x.count(1), 0);
    }

    private static void undoAndThenAnotherChange() {
        sentence("undo: Undoes the latest change: it is as it was before it");
        StepPairs x = new StepPairs();
        for (int i = 0; i < 9; i++) {
            x.turn(1);
        }
        x.undo();
        x.undo();
        x.turn(5);
        due("a change behind two undone ones", x.count(16), 5);
        due("count", x.count(1), 12);
        int[] before = {7, 6, 5, 4, 3};
        for (int i = 0; i < 5; i++) {
            due("undo " + i, x.undo(), 4 - i);
            due("the count before " + i, x.count(1), before[i]);
        }
        due("no more", x.undo(), NOT_POSSIBLE);
        x.turn(1);
        due("it begins anew", x.count(16), 1);
        due("it begins anew", x.undo(), 0);
        due("it begins anew", x.count(1), 3);
    }

    // ---- Promises 20 and 21

    private static void saveKeepsTwoSlots() {
        sentence("save: in a slot, 0 or 1, and overwrites what was saved there; returns the count");
        StepPairs x = new StepPairs();
        due("of a new one", x.save(0), 0);
        x.turn(7);
        due("in the other slot", x.save(1), 7);
        due("no change", x.count(16), 1);
        x.turn(-9);
        due("the greatest count", x.save(1), 998);
        due("slot 0 is as it was", x.restore(0), 0);
        due("slot 1 is overwritten", x.restore(1), 998);
        StepPairs y = new StepPairs();
        y.turn(2);
        y.save(1);
        due("slot 0 has nothing", y.restore(0), NOT_POSSIBLE);
        due("slot 1 has", y.restore(1), 2);
    }

    private static StepPairs saved() {
        StepPairs x = busy();
        x.save(1);
        return x;
    }

    private static void restoreBringsEverythingBack() {
        sentence("restore: Restores what was saved last in a slot, which keeps it");
        StepPairs x = saved();
        String before = sight(x);
        put(x, "f12;");
        x.set(TURN, 400);
        x.set(WRAP, 9999);
        x.set(FILTER, 1);
        x.set(GATE, 99);
        x.set(INDEX, 2);
        x.turn(99);
        x.feed(0, 0, 99);
        for (int time = 0; time < 2; time++) {
            due("the count then", x.restore(1), 14);
            due("everything, time " + time + ": " + sight(x) + " was " + before, sight(x).equals(before) ? 0 : 1, 0);
            counts("but not the pad and the history", x, 15, 4, 6);
            x.feed(3, 1, 50);
        }
        due("the other slot has what it had", x.restore(0), 13);
        due("and the slot itself is kept", x.restore(1), 14);
        StepPairs y = saved();
        y.turn(6);
        y.restore(1);
        goesOnAlike("restored", y, saved());
        StepPairs z = saved();
        z.restore(0);
        z.restore(1);
        goesOnAlike("restored behind the other slot", z, saved());
    }

    private static void restoreIsAChange() {
        sentence("restore: This is a change");
        StepPairs x = new StepPairs();
        x.turn(4);
        x.save(0);
        x.turn(4);
        due("restore", x.restore(0), 4);
        due("it is recorded", x.count(16), 3);
        due("it is undone", x.undo(), 2);
        due("it is undone", x.count(1), 8);
        due("undo goes on behind it", x.undo(), 1);
        due("undo goes on behind it", x.count(1), 4);
        due("restore of what is", x.restore(0), 4);
        due("it is recorded, too", x.count(16), 2);
        for (int i = 0; i < 9; i++) {
            x.restore(0);
        }
        due("with a full history", x.count(16), 6);
    }
}
