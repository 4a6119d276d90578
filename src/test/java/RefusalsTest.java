import java.util.ArrayList;
import java.util.LinkedHashMap;
import java.util.List;
import java.util.Map;
import java.util.function.Supplier;
import java.util.function.ToLongFunction;

/** Refused calls: which error is returned first, and that everything is as it was behind them; calls that only look, too. */
public final class RefusalsTest extends Checks {
    private static final int[] ODD = {Integer.MIN_VALUE, Integer.MAX_VALUE, -256, -100000, 65536, 100000};

    /** Calls by what they are named, in their order. */
    private static final class Calls extends LinkedHashMap<String, ToLongFunction<StepPairs>> {
        private static final long serialVersionUID = 1L;
    }

    public static void main(String[] args) {
        refusedOnANewObject();
        refusedOnABusyObject();
        refusedAtTheMostTicks();
        refusedWithAFullPad();
        badValueGoesAheadOfNone();
        lookingChangesNothing();
        padAndSlotsRecordNothing();
        end("RefusalsTest");
    }

    // ---- Objects in some states

    private static StepPairs busy() {
        StepPairs x = with(TURN, 8, WRAP, 50, GATE, 5);
        x.turn(5);
        x.save(0);
        x.turn(-2);
        x.set(FILTER, 3);
        x.feed(0, 1, 3);
        x.feed(1, 1, 2);
        put(x, "f1;x");
        return x;
    }

    private static StepPairs atMostTicks() {
        StepPairs x = after(MOST_TICKS);
        x.save(1);
        put(x, "1,3");
        return x;
    }

    private static StepPairs withFullPad() {
        StepPairs x = new StepPairs();
        x.feed(1, 0, 3);
        for (int i = 0; i < 10; i++) {
            put(x, "f1;n2;z;");
        }
        return x;
    }

    // ---- What can be seen of an object, by answers alone

    private static List<Long> sight(StepPairs x) {
        List<Long> seen = new ArrayList<>();
        for (int what = 0; what <= 16; what++) {
            seen.add((long) x.count(what));
        }
        for (int ago = 0; ago < 5; ago++) {
            for (int what = 0; what <= 2; what++) {
                seen.add((long) x.log(ago, what));
            }
        }
        for (int number = 0; number <= 3; number++) {
            seen.add((long) x.would(number));
            seen.add((long) x.deeds(number));
            seen.add((long) x.replay(1, number));
            seen.add((long) x.replay(3, number));
        }
        seen.add((long) x.bestFilter(0));
        seen.add((long) x.bestFilter(1));
        seen.add((long) x.speed(0));
        seen.add((long) x.speed(1));
        seen.add(x.rate());
        seen.add((long) x.noise());
        seen.add((long) x.fault());
        return seen;
    }

    /** The state, what undo brings back step by step, and the slots. */
    private static List<Long> past(StepPairs x) {
        List<Long> seen = sight(x);
        for (int i = 0; i < 3; i++) {
            seen.add((long) x.undo());
            seen.add((long) x.count(1));
        }
        seen.addAll(sight(x));
        for (int i = 0; i < 4; i++) {
            seen.add((long) x.undo());
            seen.add((long) x.count(0));
        }
        for (int slot = 0; slot <= 1; slot++) {
            seen.add((long) x.restore(slot));
            seen.addAll(sight(x));
        }
        return seen;
    }

    /** What shows how long the pair lasted, whether the index was 1, and the text of the pad. */
    private static List<Long> future(StepPairs x) {
        List<Long> seen = new ArrayList<>();
        for (int filter = 9; filter >= 1; filter--) {
            x.set(FILTER, filter);
            for (int pair = 0; pair <= 3; pair++) {
                seen.add((long) x.would(pair));
            }
        }
        seen.add((long) x.feed(x.count(3) ^ 1, 1, 1));
        seen.addAll(sight(x));
        seen.add((long) x.turn(1));
        seen.add((long) x.carryOut());
        seen.addAll(sight(x));
        return seen;
    }

    private static void changesNothing(String name, Supplier<StepPairs> state, ToLongFunction<StepPairs> call) {
        StepPairs plain = state.get();
        StepPairs called = state.get();
        call.applyAsLong(called);
        due(name + " changes nothing", past(called).equals(past(plain)) ? 0 : 1, 0);
        StepPairs otherPlain = state.get();
        StepPairs otherCalled = state.get();
        call.applyAsLong(otherCalled);
        due(name + " changes nothing that is hidden", future(otherCalled).equals(future(otherPlain)) ? 0 : 1, 0);
    }

    private static void refuses(Supplier<StepPairs> state, int error, Calls calls) {
        for (Map.Entry<String, ToLongFunction<StepPairs>> call : calls.entrySet()) {
            due(call.getKey(), call.getValue().applyAsLong(state.get()), error);
            changesNothing(call.getKey(), state, call.getValue());
        }
    }

    // ---- The calls

    /** Calls whose arguments are out of range in every state. */
    private static Calls badValues() {
        Calls calls = new Calls();
        for (int setting : new int[] {-1, 5, 16, Integer.MIN_VALUE, Integer.MAX_VALUE}) {
            calls.put("set(" + setting + ", 4)", x -> x.set(setting, 4));
        }
        int[][] values = {{0, 3, 5, 6, 7, 38, 41, 398, 401, 404, -4}, {0, 9, 10000, -10}, {0, 10, -1}, {0, 100, -1}, {-1, 3}};
        for (int setting = 0; setting < 5; setting++) {
            int which = setting;
            for (int value : values[setting]) {
                calls.put("set(" + setting + ", " + value + ")", x -> x.set(which, value));
            }
            for (int value : ODD) {
                calls.put("set(" + setting + ", " + value + ")", x -> x.set(which, value));
            }
        }
        badFeeds(calls, -1, 4);
        badFeeds(calls, Integer.MIN_VALUE, Integer.MAX_VALUE);
        badFeeds(calls, -256, 256);
        for (int steps : new int[] {0, -100, 100, -999, 999}) {
            calls.put("turn(" + steps + ")", x -> x.turn(steps));
        }
        for (int steps : ODD) {
            calls.put("turn(" + steps + ")", x -> x.turn(steps));
        }
        badLooks(calls, -1);
        badLooks(calls, 17);
        for (int what : ODD) {
            badLooks(calls, what);
        }
        badEdges(calls);
        return calls;
    }

    private static void badFeeds(Calls calls, int below, int above) {
        for (int bad : new int[] {below, above}) {
            calls.put("feed(" + bad + ", 0, 1)", x -> x.feed(bad, 0, 1));
            calls.put("feed(" + bad + ", 1, 100)", x -> x.feed(bad, 1, 100));
            calls.put("feed(1, " + bad + ", 1)", x -> x.feed(1, bad, 1));
            calls.put("feed(1, 2, " + bad + ")", x -> x.feed(1, 2, bad));
        }
        for (int ticks : new int[] {below, 0, 100, Math.max(above, 100)}) {
            calls.put("feed(1, 0, " + ticks + ")", x -> x.feed(1, 0, ticks));
        }
    }

    /** A number that is out of range for each call that has one. */
    private static void badLooks(Calls calls, int bad) {
        calls.put("count(" + bad + ")", x -> x.count(bad));
        calls.put("speed(" + bad + ")", x -> x.speed(bad));
        calls.put("replay(" + bad + ", 0)", x -> x.replay(bad, 0));
        calls.put("replay(1, " + bad + ")", x -> x.replay(1, bad));
        calls.put("replay(" + bad + ", 4)", x -> x.replay(bad, 4));
        calls.put("bestFilter(" + bad + ")", x -> x.bestFilter(bad));
        calls.put("would(" + bad + ")", x -> x.would(bad));
        calls.put("deeds(" + bad + ")", x -> x.deeds(bad));
        calls.put("save(" + bad + ")", x -> x.save(bad));
        calls.put("restore(" + bad + ")", x -> x.restore(bad));
    }

    /** The numbers just out of range, and characters that are none. */
    private static void badEdges(Calls calls) {
        calls.put("speed(2)", x -> x.speed(2));
        calls.put("replay(0, 0)", x -> x.replay(0, 0));
        calls.put("replay(10, 0)", x -> x.replay(10, 0));
        calls.put("replay(9, 4)", x -> x.replay(9, 4));
        calls.put("bestFilter(2)", x -> x.bestFilter(2));
        calls.put("would(4)", x -> x.would(4));
        calls.put("deeds(4)", x -> x.deeds(4));
        calls.put("save(2)", x -> x.save(2));
        calls.put("restore(2)", x -> x.restore(2));
        for (long characters : new long[] {0L, 32L, 127L, 255L, 0x6120L, 0x2061L, 0x617F61L, 0x6100L, 0x610061L, -1L, Long.MIN_VALUE, Long.MAX_VALUE,
            0x2061616161616161L, 0x6161616161616120L, 0x8061616161616161L, 0x0100000000000061L}) {
            calls.put("put(" + characters + ")", x -> x.put(characters));
        }
    }

    private static Calls badTicks() {
        Calls calls = new Calls();
        for (int ago : new int[] {-1, 200, 201, Integer.MIN_VALUE, Integer.MAX_VALUE}) {
            for (int what : new int[] {0, 2, -1, 3, Integer.MAX_VALUE}) {
                calls.put("log(" + ago + ", " + what + ")", x -> x.log(ago, what));
            }
        }
        return calls;
    }

    private static Calls badParts() {
        Calls calls = new Calls();
        for (int what : new int[] {-1, 3, 4, Integer.MIN_VALUE, Integer.MAX_VALUE}) {
            calls.put("log(0, " + what + ")", x -> x.log(0, what));
            calls.put("log(2, " + what + ")", x -> x.log(2, what));
        }
        return calls;
    }

    private static Calls one(String name, ToLongFunction<StepPairs> call) {
        Calls calls = new Calls();
        calls.put(name, call);
        return calls;
    }

    // ---- The states in which they are refused

    private static void refusedOnANewObject() {
        sentence("Conventions: the first error that applies is returned, a call that returns one changes nothing (a new object)");
        Supplier<StepPairs> state = StepPairs::new;
        refuses(state, BAD_VALUE, badValues());
        refuses(state, NO_SUCH, badTicks());
        refuses(state, NO_SUCH, one("log(0, 0)", x -> x.log(0, 0)));
        refuses(state, NO_SUCH, one("log(0, 3), no tick goes ahead of a bad what", x -> x.log(0, 3)));
        refuses(state, NOT_POSSIBLE, one("undo()", x -> x.undo()));
        refuses(state, NOT_POSSIBLE, one("restore(0)", x -> x.restore(0)));
        refuses(state, NOT_POSSIBLE, one("restore(1)", x -> x.restore(1)));
        refuses(state, BAD_TEXT, one("carryOut() of an empty pad", x -> x.carryOut()));
    }

    private static void refusedOnABusyObject() {
        sentence("Conventions: the first error that applies is returned, a call that returns one changes nothing (a full history)");
        refuses(RefusalsTest::busy, BAD_VALUE, badValues());
        refuses(RefusalsTest::busy, BAD_VALUE, badParts());
        refuses(RefusalsTest::busy, NO_SUCH, badTicks());
        refuses(RefusalsTest::busy, NO_SUCH, one("log(12, 0)", x -> x.log(12, 0)));
        refuses(RefusalsTest::busy, NO_SUCH, one("log(12, 3)", x -> x.log(12, 3)));
        refuses(RefusalsTest::busy, BAD_TEXT, one("carryOut() of a fault", x -> x.carryOut()));
        refuses(RefusalsTest::busy, NOT_POSSIBLE, one("restore(1), where nothing was saved", x -> x.restore(1)));
    }

    private static void refusedAtTheMostTicks() {
        sentence("Conventions: the first error that applies is returned, a call that returns one changes nothing (99999 ticks)");
        refuses(RefusalsTest::atMostTicks, BAD_VALUE, badValues());
        refuses(RefusalsTest::atMostTicks, BAD_VALUE, badParts());
        refuses(RefusalsTest::atMostTicks, NO_SUCH, badTicks());
        Calls calls = new Calls();
        for (int pair = 0; pair <= 3; pair++) {
            int which = pair;
            calls.put("feed(" + pair + ", 0, 1)", x -> x.feed(which, 0, 1));
            calls.put("feed(" + pair + ", 1, 99)", x -> x.feed(which, 1, 99));
        }
        for (int steps : new int[] {-99, -1, 1, 99}) {
            calls.put("turn(" + steps + ")", x -> x.turn(steps));
        }
        calls.put("restore(0), where nothing was saved", x -> x.restore(0));
        refuses(RefusalsTest::atMostTicks, NOT_POSSIBLE, calls);
    }

    private static void refusedWithAFullPad() {
        sentence("Conventions: the first error that applies is returned, a call that returns one changes nothing (a full pad)");
        refuses(RefusalsTest::withFullPad, BAD_VALUE, badValues());
        Calls calls = new Calls();
        for (String characters : new String[] {"z", "f1", "!", "~", "zzzzzzzz"}) {
            calls.put("put of " + characters, x -> x.put(packed(characters)));
        }
        refuses(RefusalsTest::withFullPad, TOO_MANY, calls);
        refuses(RefusalsTest::withFullPad, BAD_TEXT, one("carryOut() of a text that ends too early", x -> x.carryOut()));
    }

    private static void badValueGoesAheadOfNone() {
        sentence("Conventions: NONE (-6) is not an error; it is returned only if no error applies");
        StepPairs x = new StepPairs();
        due("no period", x.speed(1), NONE);
        due("no period, and a bad number", x.speed(2), BAD_VALUE);
        due("no changes", x.noise(), NONE);
        put(x, "z");
        due("no fault", x.fault(), NONE);
        due("no fault, carried out", x.carryOut(), 1);
        due("the next change is one", x.count(16), 1);
    }

    // ---- Calls that change nothing, though they are not refused

    private static void lookingChangesNothing() {
        sentence("The public face: what there is; what if; nothing changes");
        Calls calls = new Calls();
        for (int number = 0; number <= 3; number++) {
            int what = number;
            calls.put("replay(1, " + what + ")", x -> x.replay(1, what));
            calls.put("replay(9, " + what + ")", x -> x.replay(9, what));
            calls.put("would(" + what + ")", x -> x.would(what));
            calls.put("deeds(" + what + ")", x -> x.deeds(what));
        }
        for (int number = 0; number <= 1; number++) {
            int what = number;
            calls.put("bestFilter(" + what + ")", x -> x.bestFilter(what));
            calls.put("speed(" + what + ")", x -> x.speed(what));
        }
        for (int number = 0; number <= 2; number++) {
            int what = number;
            calls.put("log(0, " + what + ")", x -> x.log(0, what));
        }
        for (int number = 0; number <= 16; number++) {
            int what = number;
            calls.put("count(" + what + ")", x -> x.count(what));
        }
        calls.put("rate()", x -> x.rate());
        calls.put("noise()", x -> x.noise());
        calls.put("fault()", x -> x.fault());
        for (Map.Entry<String, ToLongFunction<StepPairs>> call : calls.entrySet()) {
            changesNothing(call.getKey() + " on a new object", StepPairs::new, call.getValue());
            changesNothing(call.getKey() + " on a busy one", RefusalsTest::busy, call.getValue());
            changesNothing(call.getKey() + " at the most ticks", RefusalsTest::atMostTicks, call.getValue());
            changesNothing(call.getKey() + " with a full pad", RefusalsTest::withFullPad, call.getValue());
        }
    }

    private static void padAndSlotsRecordNothing() {
        sentence("undo: each method that is a change records the state before it (and no other)");
        StepPairs x = busy();
        x.undo();
        List<Long> before = sight(x);
        x.wipe();
        put(x, "f1;x");
        x.save(0);
        x.save(1);
        due("put, wipe and save", sight(x).equals(before) ? 0 : 1, 0);
        due("put, wipe and save leave the history", x.count(16), 5);
    }
}
