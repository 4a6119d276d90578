/** The sentences under 'Terms' in the document that name an edge: settings, tracks, the index, speed and the log. */
public final class TermsTest extends Checks {
    private static final int[] LEAST = {4, 10, 1, 1, 0};
    private static final int[] MOST = {400, 9999, 9, 99, 2};
    private static final int[] FIRST = {40, 1000, 1, 10, 1};

    public static void main(String[] args) {
        constants();
        settingsHaveRangesAndFirstValues();
        turnIsAMultipleOf4();
        countGoesFrom0ToWrapLess1();
        filterTellsHowLongAPairLasts();
        gateTellsTheTicksOfTheGate();
        indexIsIgnoredCheckedOrResets();

        pairsFollowOneAnother();
        pairSeenIs0AtFirst();
        pairThatIsSeenIsNoOther();
        ticksStandSideBySide();
        ticksAheadOfANewFilterCount();
        illegalCountsAsNoStep();
        countWraps();
        placeIsLeftOverByTurn();

        indexIs0AheadOfTheFirstTick();
        indexHasToRise();
        indexWorksBehindTheStep();
        slipIsCountedIfThePlaceIsNot0();
        indexResetsPlaceAndCount();
        directionIsThatOfTheLatestStep();

        gateHasTheLatestTicks();
        gateHasAllTicksIfThereWereFewer();
        gateTakesBackwardsOff();
        periodLiesBetweenTheLatestTwoSteps();
        periodNeedsTwoStepsOfOneWay();
        logHasTheLatest200Ticks();
        end("TermsTest");
    }

    private static void constants() {
        sentence("Constants");
        int[] got = {StepPairs.NO_SUCH, StepPairs.BAD_VALUE, StepPairs.BAD_TEXT, StepPairs.TOO_MANY, StepPairs.NOT_POSSIBLE,
            StepPairs.NONE, StepPairs.TURN, StepPairs.WRAP, StepPairs.FILTER, StepPairs.GATE, StepPairs.INDEX};
        int[] wanted = {NO_SUCH, BAD_VALUE, BAD_TEXT, TOO_MANY, NOT_POSSIBLE, NONE, TURN, WRAP, FILTER, GATE, INDEX};
        for (int i = 0; i < wanted.length; i++) {
            due("constant " + i, got[i], wanted[i]);
        }
    }

    // ---- Settings

    private static void settingsHaveRangesAndFirstValues() {
        sentence("Settings: In parentheses: range; first value");
        for (int setting = 0; setting < 5; setting++) {
            String what = "setting " + setting;
            int step = setting == TURN ? 4 : 1;
            StepPairs x = new StepPairs();
            due(what + " at first", x.count(10 + setting), FIRST[setting]);
            due(what + " just too small", x.set(setting, LEAST[setting] - step), BAD_VALUE);
            due(what + " just too large", x.set(setting, MOST[setting] + step), BAD_VALUE);
            due(what + " is as it was", x.count(10 + setting), FIRST[setting]);
            due(what + " set to the least", x.set(setting, LEAST[setting]), FIRST[setting]);
            due(what + " is the least", x.count(10 + setting), LEAST[setting]);
            due(what + " set to the greatest", x.set(setting, MOST[setting]), LEAST[setting]);
            due(what + " is the greatest", x.count(10 + setting), MOST[setting]);
            for (int other = 0; other < 5; other++) {
                due(what + " alone, not " + other, x.count(10 + other), other == setting ? MOST[setting] : FIRST[other]);
            }
        }
    }

    private static void turnIsAMultipleOf4() {
        sentence("Settings: TURN (4 to 400, a multiple of 4; 40)");
        StepPairs x = new StepPairs();
        int previous = 40;
        for (int value = -4; value <= 404; value++) {
            boolean right = value >= 4 && value <= 400 && value % 4 == 0;
            due("TURN " + value, x.set(TURN, value), right ? previous : BAD_VALUE);
            previous = right ? value : previous;
        }
    }

    private static void countGoesFrom0ToWrapLess1() {
        sentence("Settings: WRAP: counts from 0 to WRAP less 1");
        for (int wrap : new int[] {10, 11, 99, 1000, 9999}) {
            StepPairs x = with(WRAP, wrap);
            due("1 below 0 with WRAP " + wrap, x.turn(-1), wrap - 1);
            due("1 behind the last one with WRAP " + wrap, x.turn(1), 0);
            due("9 with WRAP " + wrap, x.turn(9), 9);
            due("10 with WRAP " + wrap, x.turn(1), 10 % wrap);
            due("11 with WRAP " + wrap, x.turn(1), 11 % wrap);
        }
    }

    private static void filterTellsHowLongAPairLasts() {
        sentence("Settings: FILTER: ticks that a pair has to last");
        for (int filter = 1; filter <= 9; filter++) {
            String what = "FILTER " + filter;
            StepPairs x = with(FILTER, filter);
            StepPairs bad = with(FILTER, filter);
            for (int tick = 1; tick < filter; tick++) {
                due(what + " in tick " + tick, x.feed(1, 0, 1), 0);
                due(what + " in tick " + tick + ", a bad pair", bad.feed(3, 0, 1), 0);
            }
            due(what + " not seen yet", x.count(3), 0);
            due(what + " no illegal one yet", bad.count(7), 0);
            due(what + " in the tick", x.feed(1, 0, 1), 1);
            due(what + " in the tick, a bad pair", bad.feed(3, 0, 1), 0);
            due(what + " seen", x.count(3), 1);
            due(what + " an illegal one", bad.count(7), 1);
            StepPairs y = with(FILTER, filter);
            due(what + " in one call", y.feed(1, 0, 99), 1);
            due(what + " in which tick", y.log(99 - filter, 2), 1);
            due(what + " in one tick alone", y.deeds(0), 98);
        }
    }

    private static void gateTellsTheTicksOfTheGate() {
        sentence("Settings: GATE: ticks of the gate");
        for (int gate = 1; gate <= 99; gate++) {
            StepPairs x = with(GATE, gate);
            x.feed(1, 0, gate);
            due("GATE " + gate + ", in its first tick", x.speed(0), 1001);
            x.feed(1, 0, 1);
            due("GATE " + gate + ", ahead of it", x.speed(0), 1000);
        }
    }

    private static void indexIsIgnoredCheckedOrResets() {
        sentence("Settings: INDEX: 0 it is ignored, 1 it is checked, 2 it resets");
        int[][] wanted = {{3, 3, 0}, {3, 0, 1}, {0, 0, 0}};
        for (int index = 0; index <= 2; index++) {
            StepPairs x = with(INDEX, index);
            x.turn(3);
            x.feed(2, 1, 1);
            due("INDEX " + index + ", the count", x.count(1), wanted[index][0]);
            due("INDEX " + index + ", the place", x.count(2), wanted[index][1]);
            due("INDEX " + index + ", slips", x.count(8), wanted[index][2]);
        }
    }

    // ---- Tracks

    /** What a change by so many pairs along the order is. */
    private static int deedBy(int along) {
        int[] deeds = {0, 1, 3, 2};
        return deeds[along & 3];
    }

    private static void pairsFollowOneAnother() {
        sentence("Tracks: Forwards the pairs come in the order 0, 1, 3, 2, 0, and so on; backwards in the opposite order");
        for (int from = 0; from < 4; from++) {
            for (int to = 0; to < 4; to++) {
                StepPairs x = new StepPairs();
                x.turn(4 + from);
                int deed = deedBy(to - from);
                String what = "from " + ORDER[from] + " to " + ORDER[to];
                due(what, x.feed(ORDER[to], 0, 1), deed == 1 || deed == 2 ? 1 : 0);
                due(what + ", what was done", x.log(0, 2), deed);
                int moved = deed == 1 ? 1 : deed == 2 ? -1 : 0;
                counts(what, x, 1, 4 + from + moved, 4 + from + moved, ORDER[to], deed == 2 ? 2 : 1);
                counts(what, x, 5, 4 + from + (deed == 1 ? 1 : 0), deed == 2 ? 1 : 0, deed == 3 ? 1 : 0);
            }
        }
    }

    private static void pairSeenIs0AtFirst() {
        sentence("Tracks: The pair that is seen (0 at first)");
        StepPairs x = new StepPairs();
        due("seen", x.count(3), 0);
        due("0 is no other one", x.feed(0, 0, 99), 0);
        counts("0 is no other one", x, 0, 99, 0, 0, 0, 0, 0, 0, 0);
        for (int to = 0; to < 4; to++) {
            StepPairs y = new StepPairs();
            y.feed(ORDER[to], 0, 1);
            due("from the first one to " + ORDER[to], y.log(0, 2), deedBy(to));
        }
    }

    private static void pairThatIsSeenIsNoOther() {
        sentence("Tracks: another one, if the pair of this tick is not the one that is seen");
        StepPairs x = with(FILTER, 3);
        due("it becomes seen", x.feed(1, 0, 3), 1);
        due("it stays so", x.feed(1, 0, 99), 0);
        due("another one too short", x.feed(0, 0, 2), 0);
        due("back to the one that is seen", x.feed(1, 0, 99), 0);
        counts("one change alone", x, 5, 1, 0, 0);
    }

    private static void ticksStandSideBySide() {
        sentence("Tracks: the pair of this tick and of the FILTER less 1 ticks ahead of it, side by side");
        for (int between : new int[] {0, 2, 3}) {
            StepPairs x = with(FILTER, 3);
            x.feed(1, 0, 2);
            x.feed(between, 0, 1);
            due("broken by " + between, x.feed(1, 0, 2), 0);
            due("broken by " + between + ", the third one", x.feed(1, 0, 1), 1);
            due("broken by " + between + ", no other change", x.deeds(0), 5);
        }
        StepPairs y = with(FILTER, 3);
        feedPairs(y, 1, 3, 2, 0, 1, 3, 2, 0, 1, 2, 1, 2);
        counts("no pair lasts", y, 3, 0, 0, 0, 0, 0);
        StepPairs z = with(FILTER, 3);
        z.feed(1, 0, 1);
        z.feed(1, 1, 1);
        due("the index and the call may change", z.feed(1, 0, 1), 1);
        StepPairs first = with(FILTER, 2);
        due("there is no tick ahead of the first one", first.feed(1, 0, 1), 0);
        due("now there is", first.feed(1, 0, 1), 1);
    }

    private static void ticksAheadOfANewFilterCount() {
        sentence("Tracks: of the FILTER less 1 ticks ahead of it (by the FILTER of this tick)");
        StepPairs x = with(FILTER, 5);
        x.feed(1, 0, 3);
        x.set(FILTER, 2);
        counts("a setting alone changes no pair", x, 3, 0, 0, 0);
        due("the next tick does", x.feed(1, 0, 1), 1);
        StepPairs y = with(FILTER, 2);
        y.feed(1, 0, 1);
        y.set(FILTER, 4);
        due("the second tick and the third", y.feed(1, 0, 2), 0);
        due("the fourth tick", y.feed(1, 0, 1), 1);
        y.set(FILTER, 9);
        due("what is seen stays seen", y.count(3), 1);
        StepPairs z = with(FILTER, 9);
        z.feed(1, 0, 8);
        z.set(FILTER, 1);
        due("another pair with FILTER 1", z.feed(2, 0, 1), 1);
    }

    private static void illegalCountsAsNoStep() {
        sentence("Tracks: an illegal one, which counts as no step");
        StepPairs x = new StepPairs();
        x.feed(1, 0, 4);
        x.feed(3, 0, 1);
        due("an illegal one", x.feed(0, 0, 5), 0);
        counts("seen, but no step", x, 0, 10, 2, 2, 0, 1, 2, 0, 1);
        due("the gate", x.speed(0), 1002);
        due("the period", x.speed(1), 4);
        due("the next step begins there", x.feed(1, 0, 1), 1);
        counts("the next step begins there", x, 1, 3, 3, 1, 1, 3, 0, 1);
    }

    private static void countWraps() {
        sentence("Tracks: By a step forwards the count becomes 1 more (0 behind WRAP less 1), by one backwards 1 less");
        StepPairs x = with(WRAP, 10);
        for (int step = 1; step <= 21; step++) {
            due("forwards " + step, x.turn(1), step % 10);
        }
        for (int step = 20; step >= -11; step--) {
            due("backwards to " + step, x.turn(-1), (step + 20) % 10);
        }
        due("round and round forwards", x.turn(99), 8);
        due("round and round backwards", x.turn(-99), 9);
    }

    private static void placeIsLeftOverByTurn() {
        sentence("Tracks: the place becomes 1 more or 1 less, too, left over by TURN (0 at first)");
        for (int turn : new int[] {4, 8, 40, 400}) {
            StepPairs x = with(TURN, turn);
            due("at first", x.count(2), 0);
            x.turn(-1);
            due("1 below 0 with TURN " + turn, x.count(2), turn - 1);
            x.turn(1);
            due("1 behind the last one with TURN " + turn, x.count(2), 0);
        }
        StepPairs y = with(TURN, 4, WRAP, 10);
        for (int step = 1; step <= 13; step++) {
            y.turn(1);
            counts("place and count part, step " + step, y, 1, step % 10, step % 4);
        }
        for (int step = 12; step >= -3; step--) {
            y.turn(-1);
            counts("place and count part, back to " + step, y, 1, (step + 20) % 10, (step + 4) % 4);
        }
    }

    // ---- The index

    private static void indexIs0AheadOfTheFirstTick() {
        sentence("Tracks: was 0 in the tick ahead (0 ahead of the first one)");
        StepPairs x = new StepPairs();
        x.feed(1, 1, 1);
        counts("the first tick is checked", x, 1, 1, 0);
        due("a slip", x.count(8), 1);
        StepPairs y = with(INDEX, 2);
        y.feed(2, 1, 1);
        counts("the first tick resets", y, 1, 0, 0);
    }

    private static void indexHasToRise() {
        sentence("Tracks: In a tick in which the index is 1, and was 0 in the tick ahead");
        StepPairs x = new StepPairs();
        x.feed(0, 1, 1);
        x.feed(1, 1, 1);
        x.feed(3, 1, 9);
        counts("it is 1 all the time", x, 1, 2, 2);
        x.feed(3, 0, 1);
        counts("it becomes 0", x, 1, 2, 2);
        due("no slip yet", x.count(8), 0);
        x.feed(3, 1, 1);
        counts("it rises", x, 1, 2, 0);
        due("a slip", x.count(8), 1);
        x.feed(3, 1, 99);
        due("once a rise", x.count(8), 1);
        x.turn(1);
        x.feed(2, 1, 1);
        due("by turn() it is 0", x.count(8), 2);

        StepPairs y = with(INDEX, 0);
        y.turn(2);
        y.feed(3, 1, 1);
        y.set(INDEX, 1);
        y.feed(3, 1, 1);
        due("a new INDEX is no rise", y.count(8), 0);
        y.set(INDEX, 2);
        y.feed(3, 1, 1);
        counts("a new INDEX is no rise", y, 1, 2, 2);
    }

    private static void indexWorksBehindTheStep() {
        sentence("Tracks: behind the step of this tick");
        StepPairs x = with(TURN, 4);
        x.turn(3);
        x.feed(0, 1, 1);
        due("forwards to place 0 is no slip", x.count(8), 0);
        x.turn(1);
        x.feed(0, 1, 1);
        due("backwards to place 0 is no slip", x.count(8), 0);
        x.feed(0, 0, 1);
        x.feed(1, 1, 1);
        counts("forwards from place 0 is a slip", x, 1, 4 + 1, 0);
        due("forwards from place 0 is a slip", x.count(8), 1);
        x.feed(1, 0, 1);
        x.feed(0, 1, 1);
        counts("backwards from place 0 is a slip", x, 1, 4, 0);
        due("backwards from place 0 is a slip", x.count(8), 2);

        StepPairs y = with(INDEX, 2);
        y.turn(5);
        due("the step is made all the same", y.feed(3, 1, 1), 1);
        counts("but the count is reset behind it", y, 1, 0, 0, 3, 1, 6);

        StepPairs z = with(FILTER, 3);
        due("the step comes later than the index", z.feed(1, 1, 3), 1);
        counts("the step comes later than the index", z, 1, 1, 1);
        due("no slip", z.count(8), 0);
    }

    private static void slipIsCountedIfThePlaceIsNot0() {
        sentence("Tracks: with INDEX 1 a slip is counted if the place is not 0, and it becomes 0");
        for (int place = 0; place < 8; place++) {
            StepPairs x = with(TURN, 8);
            x.turn(16 + place);
            x.feed(ORDER[place & 3], 1, 1);
            counts("at place " + place, x, 1, 16 + place, 0);
            due("slips at place " + place, x.count(8), place == 0 ? 0 : 1);
            x.turn(-1);
            due("1 below the new place 0", x.count(2), 7);
        }
        StepPairs y = new StepPairs();
        y.turn(2);
        y.feed(0, 1, 1);
        counts("in a tick of an illegal one", y, 7, 1, 1);
        due("in a tick of an illegal one", y.count(2), 0);
    }

    private static void indexResetsPlaceAndCount() {
        sentence("Tracks: with INDEX 2 the place and the count become 0");
        StepPairs x = with(INDEX, 2, TURN, 8);
        x.turn(-3);
        x.feed(1, 1, 1);
        counts("reset", x, 0, 4, 0, 0, 1, 2, 0, 3, 0, 0);
        due("the period stays", x.speed(1), 1);
        due("the gate stays", x.speed(0), 997);
        due("the count goes on", x.turn(-1), 999);
        x.feed(0, 1, 1);
        x.feed(0, 0, 1);
        x.turn(8);
        x.feed(0, 1, 1);
        counts("reset at place 0", x, 1, 0, 0);
    }

    private static void directionIsThatOfTheLatestStep() {
        sentence("Tracks: The direction is that of the latest step (1 forwards, 2 backwards, 0 if there was none)");
        StepPairs x = new StepPairs();
        due("none", x.count(4), 0);
        x.feed(3, 0, 5);
        due("an illegal one is no step", x.count(4), 0);
        x.feed(2, 0, 1);
        due("forwards", x.count(4), 1);
        x.feed(1, 0, 9);
        due("an illegal one changes nothing", x.count(4), 1);
        x.feed(0, 1, 1);
        due("backwards", x.count(4), 2);
        x.zero();
        due("zero() is no step", x.count(4), 2);
        feedOften(x, 0, 300);
        due("also if the log has it no more", x.count(4), 2);
    }

    // ---- Speed

    private static void gateHasTheLatestTicks() {
        sentence("Speed: how many steps there were in the latest GATE ticks");
        for (int gate : new int[] {1, 2, 10, 98, 99}) {
            StepPairs x = with(GATE, gate);
            x.turn(99);
            x.turn(99);
            x.turn(99);
            due("each tick a step, GATE " + gate, x.speed(0), 1000 + gate);
            x.feed(x.count(3), 0, 1);
            due("each but the latest, GATE " + gate, x.speed(0), 1000 + gate - 1);
            x.turn(-99);
            due("backwards, GATE " + gate, x.speed(0), 1000 - gate);
        }
        StepPairs y = with(GATE, 99);
        y.turn(5);
        due("by the GATE of now, all", y.speed(0), 1005);
        y.set(GATE, 3);
        due("by the GATE of now, some", y.speed(0), 1003);
    }

    private static void gateHasAllTicksIfThereWereFewer() {
        sentence("Speed: (or in all, if there were fewer)");
        StepPairs x = with(GATE, 99);
        due("no tick", x.speed(0), 1000);
        for (int ticks = 1; ticks <= 98; ticks++) {
            x.turn(1);
            due("ticks " + ticks, x.speed(0), 1000 + ticks);
        }
    }

    private static void gateTakesBackwardsOff() {
        sentence("Speed: those forwards less those backwards");
        StepPairs x = new StepPairs();
        x.turn(6);
        x.turn(-4);
        due("6 less 4", x.speed(0), 1002);
        x.turn(-3);
        due("3 less 7", x.speed(0), 996);
        x.feed(3 - x.count(3), 0, 1);
        due("2 less 7, an illegal one", x.speed(0), 995);
    }

    private static void periodLiesBetweenTheLatestTwoSteps() {
        sentence("Speed: The period is how many ticks lie between the latest two steps (the later one's tick less the earlier one's)");
        for (int ticks : new int[] {1, 2, 99}) {
            StepPairs x = new StepPairs();
            x.feed(0, 0, 7);
            x.feed(1, 0, ticks);
            x.feed(3, 0, 5);
            due("forwards, " + ticks, x.speed(1), ticks);
            StepPairs y = new StepPairs();
            y.feed(0, 0, 7);
            y.feed(2, 0, ticks);
            y.feed(3, 0, 5);
            due("backwards, " + ticks, y.speed(1), ticks);
        }
        StepPairs z = new StepPairs();
        z.feed(1, 0, 1);
        feedOften(z, 1, 20000);
        z.feed(3, 0, 1);
        due("longer than the log", z.speed(1), 20001);
        feedOften(z, 3, 500);
        due("both steps ahead of the log", z.speed(1), 20001);
        z.feed(2, 0, 1);
        due("the latest two alone", z.speed(1), 501);
        StepPairs w = with(FILTER, 4);
        w.feed(1, 0, 6);
        w.feed(3, 0, 4);
        due("from the tick of the step, not of the pair", w.speed(1), 6);
        w.feed(0, 0, 10);
        w.feed(1, 0, 5);
        due("an illegal one between them", w.speed(1), 14);
    }

    private static void periodNeedsTwoStepsOfOneWay() {
        sentence("Speed: if both went the same way; otherwise there is none");
        StepPairs x = new StepPairs();
        x.feed(0, 0, 5);
        due("no step", x.speed(1), NONE);
        x.feed(1, 0, 2);
        due("one step", x.speed(1), NONE);
        due("one step, its rate", x.rate(), 0);
        x.feed(0, 0, 2);
        due("forwards, backwards", x.speed(1), NONE);
        due("forwards, backwards, its rate", x.rate(), 0);
        x.feed(2, 0, 3);
        due("backwards twice", x.speed(1), 2);
        x.feed(0, 0, 1);
        due("backwards, forwards", x.speed(1), NONE);
        x.feed(1, 0, 1);
        due("forwards twice", x.speed(1), 1);
        StepPairs y = new StepPairs();
        y.feed(0, 0, 5);
        y.feed(2, 0, 3);
        due("one step backwards", y.speed(1), NONE);
    }

    private static void logHasTheLatest200Ticks() {
        sentence("Speed: The log has the latest 200 ticks");
        StepPairs x = new StepPairs();
        due("no tick", x.count(9), 0);
        x.feed(1, 0, 1);
        due("a tick", x.count(9), 1);
        feedOften(x, 0, 198);
        due("199 ticks", x.count(9), 199);
        due("199 ticks, the oldest one", x.log(198, 0), 1);
        due("199 ticks, none older", x.log(199, 0), NO_SUCH);
        x.feed(0, 0, 1);
        due("200 ticks", x.count(9), 200);
        due("200 ticks, the oldest one", x.log(199, 0), 1);
        x.feed(3, 0, 1);
        due("201 ticks", x.count(9), 200);
        due("201 ticks, the oldest one", x.log(199, 0), 0);
        due("201 ticks, none older", x.log(200, 0), NO_SUCH);
        due("201 ticks so far", x.count(0), 201);
    }
}
