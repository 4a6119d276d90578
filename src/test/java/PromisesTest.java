/** At least one check for each promise of the document: ordinary inputs, the edges, wrong inputs. */
public final class PromisesTest extends Checks {
    private static StepPairs after(String text) {
        StepPairs x = new StepPairs();
        put(x, text);
        x.carryOut();
        return x;
    }

    public static void main(String[] args) {
        newObject();
        set();
        feed();
        feedThroughFilter();
        feedIndex();
        turn();
        zero();
        log();
        count();
        speed();
        rate();
        noise();
        replay();
        bestFilter();
        would();
        deeds();
        put();
        wipe();
        fault();
        carryOut();
        undo();
        save();
        restore();
        end("PromisesTest");
    }

    private static void newObject() {
        counts("1 new", new StepPairs(), 0, 0, 0, 0, 0, 0, 0, 0, 0, 0, 0, 40, 1000, 1, 10, 1, 0, 0);
        StepPairs x = new StepPairs();
        due("1 nothing to undo", x.undo(), NOT_POSSIBLE);
        due("1 nothing saved", x.restore(0), NOT_POSSIBLE);
        due("1 an empty pad", x.fault(), 0);
    }

    private static void set() {
        int[][] edges = {{4, 400, 40}, {10, 9999, 1000}, {1, 9, 1}, {1, 99, 10}, {0, 2, 1}};
        for (int setting = 0; setting < 5; setting++) {
            StepPairs x = new StepPairs();
            String what = "2 set " + setting;
            int step = setting == TURN ? 4 : 1;
            due(what + " below", x.set(setting, edges[setting][0] - step), BAD_VALUE);
            due(what + " above", x.set(setting, edges[setting][1] + step), BAD_VALUE);
            due(what + " nothing recorded", x.count(16), 0);
            due(what + " least", x.set(setting, edges[setting][0]), edges[setting][2]);
            due(what + " most", x.set(setting, edges[setting][1]), edges[setting][0]);
            due(what + " now", x.count(10 + setting), edges[setting][1]);
            due(what + " recorded", x.count(16), 2);
            due(what + " least int", x.set(setting, Integer.MIN_VALUE), BAD_VALUE);
            due(what + " most int", x.set(setting, Integer.MAX_VALUE), BAD_VALUE);
        }
        StepPairs x = new StepPairs();
        for (int turn = 5; turn < 8; turn++) {
            due("2 no multiple of 4", x.set(TURN, turn), BAD_VALUE);
        }
        due("2 no such setting", x.set(-1, 1), BAD_VALUE);
        due("2 no such setting", x.set(5, 1), BAD_VALUE);
        due("2 no such setting", x.set(Integer.MIN_VALUE, 1), BAD_VALUE);
        x.turn(27);
        x.set(TURN, 8);
        counts("2 place left over", x, 1, 27, 3);
        x.set(WRAP, 10);
        counts("2 count left over", x, 1, 7, 3);
        x.set(TURN, 400);
        x.set(WRAP, 9999);
        counts("2 nothing comes back", x, 1, 7, 3);
    }

    private static void feed() {
        StepPairs x = new StepPairs();
        due("3 pair below", x.feed(-1, 0, 1), BAD_VALUE);
        due("3 pair above", x.feed(4, 0, 1), BAD_VALUE);
        due("3 index below", x.feed(1, -1, 1), BAD_VALUE);
        due("3 index above", x.feed(1, 2, 1), BAD_VALUE);
        due("3 ticks below", x.feed(1, 0, 0), BAD_VALUE);
        due("3 ticks below", x.feed(1, 0, Integer.MIN_VALUE), BAD_VALUE);
        due("3 ticks above", x.feed(1, 0, 100), BAD_VALUE);
        counts("3 errors change nothing", x, 0, 0, 0, 0, 0);
        due("3 nothing recorded", x.count(16), 0);
        int[] round = {1, 3, 2, 0};
        for (int i = 0; i < 4; i++) {
            due("3 forwards", x.feed(round[i], 0, 1), 1);
            counts("3 forwards", x, 1, i + 1, i + 1, round[i], 1, i + 1, 0, 0);
        }
        int[] back = {2, 3, 1, 0, 2};
        for (int i = 0; i < 5; i++) {
            due("3 backwards", x.feed(back[i], 0, 2), 1);
            counts("3 backwards", x, 4, 2, 4, i + 1, 0);
        }
        counts("3 below 0", x, 0, 14, 999, 39);
        due("3 illegal is no step", x.feed(1, 0, 1), 0);
        counts("3 illegal", x, 0, 15, 999, 39, 1, 2, 4, 5, 1);
        due("3 illegal", x.feed(2, 0, 1), 0);
        due("3 illegal", x.count(7), 2);
        due("3 most ticks", x.feed(0, 1, 99), 1);
        counts("3 most ticks", x, 0, 115, 0, 0);

        StepPairs y = new StepPairs();
        y.set(FILTER, 9);
        for (int i = 0; i < 112; i++) {
            y.turn(99);
        }
        feedOften(y, 2, 99999 - 112 * 891 - 2);
        due("3 ticks", y.count(0), 99997);
        due("3 too many ticks", y.feed(2, 0, 3), NOT_POSSIBLE);
        due("3 a bad value goes ahead", y.feed(2, 0, 100), BAD_VALUE);
        due("3 just not too many", y.feed(2, 0, 2), 0);
        due("3 ticks", y.count(0), 99999);
        due("3 none more", y.feed(2, 0, 1), NOT_POSSIBLE);
        due("4 none more", y.turn(1), NOT_POSSIBLE);
        due("4 none more", y.turn(-1), NOT_POSSIBLE);
        due("4 a bad value goes ahead", y.turn(0), BAD_VALUE);
        due("3 ticks", y.count(0), 99999);
    }

    private static void feedThroughFilter() {
        StepPairs x = new StepPairs();
        x.set(FILTER, 3);
        due("3 too short", x.feed(1, 0, 2), 0);
        due("3 broken off", x.feed(0, 0, 1), 0);
        due("3 too short again", x.feed(1, 0, 2), 0);
        due("3 seen", x.count(3), 0);
        due("3 lasts by two calls", x.feed(1, 1, 1), 1);
        due("3 seen", x.count(3), 1);
        due("3 only once", x.feed(1, 0, 9), 0);
        x.feed(3, 0, 2);
        x.set(FILTER, 2);
        due("3 a change needs a tick", x.count(3), 1);
        due("3 ticks ahead of a new filter", x.feed(3, 0, 1), 1);
        x.set(FILTER, 9);
        due("3 eight", x.feed(2, 0, 8), 0);
        due("3 the ninth", x.feed(2, 0, 1), 1);
        StepPairs y = new StepPairs();
        y.set(FILTER, 2);
        due("3 no ticks ahead of the first", y.feed(2, 0, 1), 0);
        due("3 the second", y.feed(2, 0, 1), 1);
        due("3 backwards", y.count(4), 2);
    }

    private static void feedIndex() {
        StepPairs x = new StepPairs();
        x.turn(3);
        x.feed(0, 1, 1);
        counts("3 a slip behind the step", x, 1, 4, 0);
        due("3 slips", x.count(8), 1);
        x.feed(1, 1, 1);
        counts("3 the index stays 1", x, 1, 5, 1);
        due("3 slips", x.count(8), 1);
        x.feed(1, 0, 1);
        x.feed(0, 1, 1);
        counts("3 no slip at 0", x, 1, 4, 0);
        due("3 slips", x.count(8), 1);
        x.feed(1, 0, 1);
        x.set(INDEX, 0);
        x.feed(1, 1, 1);
        counts("3 ignored", x, 1, 5, 1);
        x.set(INDEX, 2);
        x.feed(1, 1, 1);
        counts("3 no rise", x, 1, 5, 1);
        x.feed(1, 0, 1);
        x.feed(3, 1, 1);
        counts("3 reset", x, 1, 0, 0);
        counts("3 a reset is no slip", x, 5, 7, 1, 0, 1);
        StepPairs y = new StepPairs();
        y.set(INDEX, 2);
        y.feed(1, 1, 1);
        counts("3 the index is 0 ahead of the first tick", y, 1, 0, 0);
    }

    private static void turn() {
        StepPairs x = new StepPairs();
        due("4 none", x.turn(0), BAD_VALUE);
        due("4 above", x.turn(100), BAD_VALUE);
        due("4 below", x.turn(-100), BAD_VALUE);
        due("4 least int", x.turn(Integer.MIN_VALUE), BAD_VALUE);
        due("4 nothing recorded", x.count(16), 0);
        due("4 most", x.turn(99), 99);
        counts("4 most", x, 0, 99, 99, 19, 2, 1, 99);
        due("4 least", x.turn(-99), 0);
        counts("4 least", x, 0, 198, 0, 0, 0, 2, 99, 99);
        due("4 wraps", x.turn(-1), 999);
        due("4 wraps", x.turn(2), 1);
        x.set(FILTER, 4);
        x.feed(0, 1, 2);
        due("4 for FILTER ticks", x.turn(3), 4);
        counts("4 for FILTER ticks", x, 0, 215, 4);
        due("4 with the index 0", x.log(11, 1), 0);
        due("4 behind the index", x.log(12, 1), 1);
        due("4 the pairs", x.log(11, 0), 3);
        due("4 the pairs", x.log(0, 0), 0);
        x.feed(1, 0, 3);
        due("4 the next by the pair that is seen", x.turn(1), 5);
        due("4 the next by the pair that is seen", x.count(3), 1);
        due("4 done in its first tick", x.log(3, 2), 1);

        StepPairs y = new StepPairs();
        y.set(FILTER, 9);
        for (int i = 0; i < 112; i++) {
            y.turn(i % 2 == 0 ? 99 : -99);
        }
        y.turn(22);
        due("4 ticks", y.count(0), 99990);
        due("4 too many", y.turn(2), NOT_POSSIBLE);
        due("4 ticks", y.count(0), 99990);
        due("4 just not too many", y.turn(1), 23);
        due("4 ticks", y.count(0), 99999);
    }

    private static void zero() {
        StepPairs x = new StepPairs();
        due("5 of a new one", x.zero(), 0);
        due("5 is a change", x.count(16), 1);
        x.turn(45);
        due("5 zero", x.zero(), 45);
        counts("5 zero", x, 0, 45, 0, 0, 1, 1, 45, 0, 0);
        due("5 the period stays", x.speed(1), 1);
        due("5 the gate stays", x.speed(0), 1010);
    }

    private static void log() {
        StepPairs x = new StepPairs();
        due("6 none", x.log(0, 0), NO_SUCH);
        due("6 no such tick goes ahead", x.log(0, 3), NO_SUCH);
        x.feed(1, 0, 1);
        x.feed(0, 1, 1);
        x.feed(3, 0, 2);
        int[][] ticks = {{3, 0, 0}, {3, 0, 3}, {0, 1, 2}, {1, 0, 1}};
        for (int ago = 0; ago < 4; ago++) {
            for (int what = 0; what < 3; what++) {
                due("6 log " + ago + " " + what, x.log(ago, what), ticks[ago][what]);
            }
        }
        due("6 too long ago", x.log(4, 0), NO_SUCH);
        due("6 below", x.log(-1, 0), NO_SUCH);
        due("6 least int", x.log(Integer.MIN_VALUE, 0), NO_SUCH);
        due("6 most int", x.log(Integer.MAX_VALUE, 9), NO_SUCH);
        due("6 what below", x.log(3, -1), BAD_VALUE);
        due("6 what above", x.log(3, 3), BAD_VALUE);
        feedOften(x, 2, 199);
        due("6 the oldest one", x.log(199, 0), 3);
        due("6 the next one", x.log(198, 2), 1);
        due("6 has 200", x.log(200, 0), NO_SUCH);
        due("6 what at 200", x.log(200, 3), NO_SUCH);
    }

    private static void count() {
        StepPairs x = new StepPairs();
        due("7 below", x.count(-1), BAD_VALUE);
        due("7 above", x.count(17), BAD_VALUE);
        due("7 most int", x.count(Integer.MAX_VALUE), BAD_VALUE);
        x.set(TURN, 8);
        x.set(WRAP, 20);
        x.set(GATE, 30);
        x.turn(25);
        x.turn(-2);
        x.feed(1, 1, 1);
        x.feed(1, 0, 7);
        put(x, "f1;");
        counts("7 numbers", x, 0, 35, 3, 0, 1, 2, 25, 2, 1, 1, 35, 8, 20, 1, 30, 1, 3, 6);
        feedOften(x, 1, 165);
        due("7 just all in the log", x.count(9), 200);
        x.feed(1, 0, 1);
        due("7 the log is full", x.count(9), 200);
        due("7 ticks go on", x.count(0), 201);
    }

    private static void speed() {
        StepPairs x = new StepPairs();
        due("8 at rest", x.speed(0), 1000);
        due("8 no period", x.speed(1), NONE);
        due("8 below", x.speed(-1), BAD_VALUE);
        due("8 above", x.speed(2), BAD_VALUE);
        x.feed(1, 0, 3);
        due("8 one step", x.speed(0), 1001);
        due("8 one step has no period", x.speed(1), NONE);
        x.feed(3, 0, 6);
        due("8 two steps", x.speed(0), 1002);
        due("8 the period", x.speed(1), 3);
        x.feed(2, 0, 1);
        due("8 the gate is full", x.speed(0), 1003);
        due("8 the period", x.speed(1), 6);
        x.feed(2, 0, 1);
        due("8 out of the gate", x.speed(0), 1002);
        x.set(GATE, 2);
        due("8 a shorter gate", x.speed(0), 1001);
        x.set(GATE, 99);
        due("8 a longer gate", x.speed(0), 1003);
        x.feed(1, 0, 5);
        due("8 an illegal one is no step", x.speed(1), 6);
        x.feed(0, 0, 1);
        due("8 backwards", x.speed(0), 1002);
        due("8 two ways have no period", x.speed(1), NONE);
        feedOften(x, 0, 299);
        x.feed(2, 0, 1);
        due("8 the period is longer than the log", x.speed(1), 300);
        due("8 by the gate of 99", x.speed(0), 999);
        StepPairs y = new StepPairs();
        y.set(GATE, 99);
        y.turn(-99);
        due("8 the least", y.speed(0), 901);
        StepPairs z = new StepPairs();
        z.set(FILTER, 3);
        z.feed(1, 0, 4);
        z.feed(3, 0, 3);
        due("8 by the ticks of the steps", z.speed(1), 4);
    }

    private static void rate() {
        StepPairs x = new StepPairs();
        due("9 without a period", x.rate(), 0);
        int[] turns = {4, 40, 44, 100, 128, 356, 400};
        for (int ticks = 1; ticks <= 99; ticks++) {
            x = new StepPairs();
            x.feed(1, 0, ticks);
            x.feed(0, 0, 1);
            due("9 two ways", x.rate(), 0);
            for (int way = 1; way >= -1; way -= 2) {
                StepPairs y = new StepPairs();
                y.feed(way == 1 ? 1 : 2, 0, ticks);
                y.feed(3, 0, 1);
                for (int turn : turns) {
                    y.set(TURN, turn);
                    double rate = (way == 1 ? 1.0 : -1.0) / (double) (ticks * turn);
                    due("9 rate " + ticks + " " + turn, y.rate(), Double.doubleToLongBits(rate));
                }
            }
        }
        StepPairs z = new StepPairs();
        z.feed(1, 0, 1);
        feedOften(z, 1, 30000);
        z.feed(3, 0, 1);
        z.set(TURN, 400);
        due("9 a long period", z.rate(), Double.doubleToLongBits(1.0 / (30001.0 * 400.0)));
    }

    private static void noise() {
        StepPairs x = new StepPairs();
        due("10 without changes", x.noise(), NONE);
        x.feed(0, 0, 9);
        due("10 without changes", x.noise(), NONE);
        x.feed(1, 0, 1);
        due("10 none illegal", x.noise(), Float.floatToIntBits(0.0f));
        StepPairs y = new StepPairs();
        y.feed(3, 0, 1);
        due("10 all illegal", y.noise(), Float.floatToIntBits(1.0f));
        for (int steps = 1; steps < 100; steps++) {
            y.turn(steps % 3 == 0 ? -1 : 1);
            due("10 share", y.noise(), Float.floatToIntBits(1.0f / (float) (1 + steps)));
        }
        StepPairs z = new StepPairs();
        z.turn(99);
        int seen = 2;
        for (int illegal = 1; illegal < 200; illegal++) {
            seen = 3 - seen;
            z.feed(seen, 0, 1);
            due("10 share", z.noise(), Float.floatToIntBits((float) illegal / (float) (99 + illegal)));
        }
    }

    private static void replay() {
        StepPairs x = new StepPairs();
        due("11 filter below", x.replay(0, 0), BAD_VALUE);
        due("11 filter above", x.replay(10, 0), BAD_VALUE);
        due("11 what below", x.replay(1, -1), BAD_VALUE);
        due("11 what above", x.replay(1, 4), BAD_VALUE);
        due("11 of nothing", x.replay(9, 3), 0);
        x.feed(1, 0, 3);
        x.feed(3, 0, 2);
        x.feed(0, 0, 1);
        x.feed(3, 0, 1);
        x.feed(1, 0, 4);
        int[][] answers = {{2, 1, 2, 1}, {2, 1, 0, 1}, {1, 0, 0, 1}, {1, 0, 0, 1}, {0, 0, 0, 0}};
        for (int filter = 1; filter <= 5; filter++) {
            for (int what = 0; what < 4; what++) {
                due("11 replay " + filter + " " + what, x.replay(filter, what), answers[filter - 1][what]);
            }
        }
        counts("11 changes nothing", x, 0, 11, 1, 1, 1, 2, 2, 1, 2, 0, 11, 40, 1000, 1, 10, 1, 0, 5);

        StepPairs y = new StepPairs();
        y.turn(99);
        y.turn(99);
        due("11 the log alone", y.replay(1, 3), 198);
        y.feed(3, 0, 3);
        due("11 a new one sees 0 at first", y.replay(1, 0), 196);
        due("11 a new one sees 0 at first", y.replay(1, 2), 1);
        y.set(WRAP, 10);
        due("11 the WRAP of now", y.replay(1, 3), 6);
        y.set(WRAP, 1000);
        y.feed(2, 1, 1);
        y.feed(0, 1, 1);
        due("11 the index is checked", y.replay(1, 3), 196);
        y.set(INDEX, 2);
        due("11 the index resets by the INDEX of now", y.replay(1, 3), 1);
        y.set(INDEX, 0);
        due("11 the index is ignored", y.replay(1, 3), 196);

        StepPairs z = new StepPairs();
        z.feed(1, 1, 1);
        z.set(INDEX, 2);
        due("11 the index is 0 ahead of the first tick", z.replay(1, 3), 0);
        feedOften(z, 1, 198);
        z.feed(3, 1, 1);
        z.feed(2, 1, 1);
        due("11 ahead of the log nothing is known", z.replay(1, 3), 1);
    }

    private static void bestFilter() {
        StepPairs x = new StepPairs();
        due("12 below", x.bestFilter(-1), BAD_VALUE);
        due("12 above", x.bestFilter(2), BAD_VALUE);
        due("12 of nothing", x.bestFilter(0), 1);
        due("12 of nothing", x.bestFilter(1), 0);
        x.feed(3, 0, 8);
        due("12 the last one", x.bestFilter(0), 9);
        due("12 the last one", x.bestFilter(1), 0);
        x.feed(3, 0, 1);
        due("12 the least of several", x.bestFilter(0), 1);
        due("12 the fewest", x.bestFilter(1), 1);
        x.feed(0, 0, 2);
        due("12 a filter of 3", x.bestFilter(0), 3);
        due("12 a filter of 3", x.bestFilter(1), 1);
        due("12 changes nothing", x.count(12), 1);
        due("12 changes nothing", x.count(16), 3);
    }

    private static void would() {
        StepPairs x = new StepPairs();
        due("13 below", x.would(-1), BAD_VALUE);
        due("13 above", x.would(4), BAD_VALUE);
        int[] cycle = {0, 1, 3, 2};
        for (int at = 0; at < 4; at++) {
            for (int by = 0; by < 4; by++) {
                int due = by == 0 ? 0 : by == 1 ? 1 : by == 3 ? 2 : 3;
                due("13 would " + at + " " + by, x.would(cycle[(at + by) % 4]), due);
            }
            x.turn(1);
        }
        x.set(FILTER, 2);
        due("13 too short", x.would(1), 0);
        x.feed(1, 0, 1);
        due("13 it lasts", x.would(1), 1);
        due("13 another one", x.would(3), 0);
        due("13 changes nothing", x.count(0), 5);
        due("13 changes nothing", x.would(1), 1);
        due("13 seen", x.count(3), 0);
    }

    private static void deeds() {
        StepPairs x = new StepPairs();
        due("14 below", x.deeds(-1), BAD_VALUE);
        due("14 above", x.deeds(4), BAD_VALUE);
        x.turn(6);
        x.turn(-3);
        x.feed(1, 0, 5);
        int[] wanted = {4, 6, 3, 1};
        for (int deed = 0; deed < 4; deed++) {
            due("14 deeds " + deed, x.deeds(deed), wanted[deed]);
        }
        feedOften(x, 1, 191);
        due("14 the log alone", x.deeds(0), 195);
        due("14 the log alone", x.deeds(1), 1);
        due("14 the log alone", x.deeds(2), 3);
    }

    private static void put() {
        StepPairs x = new StepPairs();
        due("15 no character", x.put(0L), BAD_VALUE);
        due("15 a code below", x.put(32L), BAD_VALUE);
        due("15 the least code", x.put(33L), 1);
        due("15 the greatest code", x.put(126L), 2);
        due("15 a code above", x.put(127L), BAD_VALUE);
        due("15 a code above", x.put(0xFFL), BAD_VALUE);
        due("15 a hole", x.put(0x410042L), BAD_VALUE);
        due("15 a hole at the end", x.put(0x4100L), BAD_VALUE);
        due("15 a bit far above", x.put(0x0100000000000041L), BAD_VALUE);
        due("15 the highest bit", x.put(0x8041414141414141L), BAD_VALUE);
        due("15 the highest bit", x.put(Long.MIN_VALUE), BAD_VALUE);
        due("15 nothing is appended", x.count(15), 2);
        due("15 is no change", x.count(16), 0);
        for (int i = 0; i < 9; i++) {
            due("15 eight", x.put(0x4142434445464748L), 10 + 8 * i);
        }
        due("15 74 of them", x.count(15), 74);
        due("15 too long", x.put(0x41424344454647L), TOO_MANY);
        due("15 a bad value goes ahead", x.put(0x20424344454647L), BAD_VALUE);
        due("15 just not too long", x.put(0x414243444546L), 80);
        due("15 full", x.put(0x41L), TOO_MANY);
        due("15 full", x.count(15), 80);
        StepPairs y = new StepPairs();
        y.put(('f' << 16) | ('1' << 8) | '2');
        y.carryOut();
        due("15 the lowest bits are the last character", y.count(1), 12);
    }

    private static void wipe() {
        StepPairs x = new StepPairs();
        due("16 empty", x.wipe(), 0);
        put(x, "f1;f2;f3;");
        due("16 wipe", x.wipe(), 9);
        due("16 wiped", x.count(15), 0);
        due("16 is no change", x.count(16), 0);
        put(x, "z");
        due("16 nothing is left", x.fault(), NONE);
        due("16 one", x.wipe(), 1);
    }

    private static void fault() {
        String[] right = {"0", "3i*999", "1,2i,3*0,0i*10", "f0", "f999", "b10", "n1", "n9", "z", "z;z;0;f1;b2;n3", "2*5;z"};
        for (String text : right) {
            due("17 " + text, faultOf(text), NONE);
        }
        String[] early = {"", "0,", "0;", "f", "b", "n", "z;", "1*", "1i*", "1i,", "n3;"};
        for (String text : early) {
            due("17 too early " + text, faultOf(text), text.length());
        }
        // A '!' in front of the character at which the fault is.
        String[] marked = {"!F1", "f0!0", "f100!0", "b0!1", "!4", "!i", "!*", "!,", "!;", "0!0", "0i!i", "0*!i", "0*1!i",
            "0*0!0", "0*0!1", "0*999!9", "0*100!0",
            "0,!,", "0,!;", "0,!f1", "0;!;", "0;!,", "f!z", "f!-1", "f12!z", "f1!,2", "b!i", "n!0",
            "n1!1", "n!;", "z!z", "z!,0", "z!1", "!Z", "0!4", "0*1!*1", "z;!x", "0*5,3i*7;n!x;0", "!~", "!g", "!a", "0!j"};
        for (String text : marked) {
            int at = text.indexOf('!');
            due("17 " + text, faultOf(text.substring(0, at) + text.substring(at + 1)), at);
        }
        StepPairs x = new StepPairs();
        for (int i = 0; i < 10; i++) {
            put(x, "0,1,2,3,");
        }
        due("17 a full pad that ends too early", x.fault(), 80);
        x.wipe();
        put(x, "z");
        for (int i = 0; i < 9; i++) {
            put(x, ";z;z;z;z");
        }
        put(x, ";z;z;f1");
        due("17 a full pad", x.count(15), 80);
        due("17 a full pad", x.fault(), NONE);
        due("18 a full pad", x.carryOut(), 40);
    }

    private static void carryOut() {
        StepPairs x = new StepPairs();
        due("18 an empty pad", x.carryOut(), BAD_TEXT);
        put(x, "f1;x");
        due("18 a fault", x.carryOut(), BAD_TEXT);
        counts("18 the pad stays", x, 15, 4, 0);
        due("18 nothing is carried out", x.count(0), 0);
        x.wipe();
        put(x, "1,3*2,2i;f12;b3;n4;z");
        due("18 carried out", x.carryOut(), 5);
        counts("18 carried out", x, 0, 19, 0, 0, 0, 2, 15, 3, 0, 1);
        counts("18 the pad is empty, one change", x, 15, 0, 1);
        due("18 n", x.count(12), 4);
        due("18 the index", x.log(15, 1), 1);
        due("18 the index", x.log(16, 1), 0);
        due("18 the pairs", x.log(17, 0), 3);

        StepPairs y = new StepPairs();
        put(y, "f2;0,0*0,3*9;z");
        due("18 up to the first error", y.carryOut(), 1);
        counts("18 the runs ahead of it stay", y, 0, 3, 2, 2, 0, 1, 2, 0, 1);
        counts("18 the pad is empty", y, 15, 0, 1);
        put(y, "b100;z");
        due("18 none is carried out", y.carryOut(), 0);
        counts("18 none is carried out", y, 15, 0, 2);
        due("18 no zero()", y.count(1), 2);
        counts("18 f0 is an error", after("z;f0;f1"), 0, 0);
        counts("18 f99", after("f99"), 0, 99);
        counts("18 f100 is an error", after("f100"), 0, 0);
        counts("18 99 ticks", after("1*99"), 0, 99, 1);
        counts("18 100 ticks are an error", after("1,3*100,2"), 0, 1, 1);
        counts("18 n and f", after("n9;f2"), 0, 18, 2);
        counts("18 b", after("b2"), 0, 2, 998, 38);

        StepPairs z = new StepPairs();
        z.set(FILTER, 9);
        for (int i = 0; i < 112; i++) {
            z.turn(99);
        }
        feedOften(z, 0, 99999 - 112 * 891 - 3);
        put(z, "0,0;0*2;z");
        due("18 too many ticks", z.carryOut(), 1);
        due("18 too many ticks", z.count(0), 99998);
        due("18 no zero()", z.count(1), 88);
    }

    private static void undo() {
        StepPairs x = new StepPairs();
        for (int i = 1; i <= 8; i++) {
            x.turn(1);
            due("19 at most 6", x.count(16), Math.min(i, 6));
        }
        for (int i = 5; i >= 0; i--) {
            due("19 undo", x.undo(), i);
            counts("19 undone", x, 0, i + 2, i + 2, i + 2);
        }
        due("19 none more", x.undo(), NOT_POSSIBLE);
        due("19 none more", x.count(0), 2);

        undoEach();
        StepPairs y = new StepPairs();
        y.set(FILTER, 3);
        y.feed(1, 0, 4);
        y.feed(3, 1, 2);
        y.save(1);
        put(y, "2*9;n1;f3");
        y.carryOut();
        put(y, "z");
        due("19 a text is one change", y.undo(), 3);
        due("19 the ticks that lasted come back", y.would(3), 1);
        counts("19 everything", y, 0, 6, 1, 0, 1, 1, 1, 0, 0, 1, 6, 40, 1000, 3, 10, 1, 1, 3);
        due("19 the log", y.log(0, 0), 3);
        due("19 the log", y.deeds(0), 5);
        y.feed(3, 1, 1);
        due("19 the index comes back", y.count(8), 1);
        due("19 the period", y.speed(1), 4);
        y.undo();
        due("19 the period", y.speed(1), NONE);
        y.turn(0);
        y.set(9, 9);
        y.restore(7);
        due("19 errors record nothing", y.count(16), 3);
        y.undo();
        y.undo();
        y.undo();
        due("19 back to the first", y.count(12), 1);
        due("19 the slots stay", y.restore(1), 1);
        due("19 restore is a change", y.undo(), 0);
        due("19 undone", y.count(0), 0);
        y.set(TURN, 40);
        y.zero();
        due("19 also if nothing is different", y.count(16), 2);
        y.count(0);
        y.log(0, 0);
        y.replay(1, 1);
        y.bestFilter(0);
        y.would(1);
        y.save(0);
        put(y, "f1");
        y.wipe();
        due("19 no changes", y.count(16), 2);
    }

    private static void undoEach() {
        StepPairs x = new StepPairs();
        x.set(FILTER, 2);
        x.turn(3);
        x.feed(2, 1, 1);
        x.save(0);
        x.feed(0, 0, 2);
        for (int change = 0; change < 6; change++) {
            switch (change) {
                case 0 -> due("19 set", x.set(FILTER, 5), 2);
                case 1 -> due("19 feed", x.feed(3, 1, 3), 0);
                case 2 -> due("19 turn", x.turn(-5), 999);
                case 3 -> due("19 zero", x.zero(), 4);
                case 4 -> due("19 restore", x.restore(0), 3);
                default -> {
                    put(x, "b5;n7;3*9");
                    due("19 carryOut", x.carryOut(), 3);
                }
            }
            due("19 undo of change " + change, x.undo(), 4);
            counts("19 undo of change " + change, x, 0, 9, 4, 1, 0, 1, 4, 0, 0, 1, 9, 40, 1000, 2, 10, 1, 0, 4);
            due("19 undo of change " + change, x.log(0, 2), 1);
            due("19 undo of change " + change, x.speed(1), 3);
        }
    }

    private static void save() {
        StepPairs x = new StepPairs();
        due("20 below", x.save(-1), BAD_VALUE);
        due("20 above", x.save(2), BAD_VALUE);
        due("20 of a new one", x.save(0), 0);
        x.turn(7);
        due("20 the count", x.save(1), 7);
        due("20 is no change", x.count(16), 1);
        x.turn(2);
        due("20 overwrites", x.save(1), 9);
        x.turn(5);
        due("20 two slots", x.restore(0), 0);
        due("20 two slots", x.restore(1), 9);
        x.turn(5);
        due("20 a slot is kept", x.restore(1), 9);
    }

    private static void restore() {
        StepPairs x = new StepPairs();
        due("21 below", x.restore(-1), BAD_VALUE);
        due("21 above", x.restore(2), BAD_VALUE);
        due("21 nothing saved", x.restore(0), NOT_POSSIBLE);
        due("21 nothing saved", x.restore(1), NOT_POSSIBLE);
        due("21 errors record nothing", x.count(16), 0);
        x.set(TURN, 8);
        x.set(GATE, 3);
        x.turn(6);
        x.feed(3, 0, 2);
        x.feed(1, 1, 1);
        x.save(0);
        put(x, "z");
        x.set(TURN, 80);
        x.set(GATE, 99);
        x.set(INDEX, 2);
        x.turn(-30);
        x.feed(1, 0, 1);
        due("21 the count", x.restore(0), 5);
        counts("21 everything but the pad and the history", x, 0, 9, 5, 0, 1, 2, 6, 1, 0, 1, 9, 8, 1000, 1, 3, 1, 1, 6);
        due("21 the gate", x.speed(0), 999);
        due("21 the log", x.log(1, 0), 3);
        due("21 the log", x.log(9, 0), NO_SUCH);
        x.feed(3, 1, 1);
        due("21 the index is still 1", x.count(8), 1);
        due("21 no slip", x.count(2), 1);
        x.undo();
        x.undo();
        counts("21 restore is undone", x, 1, 975, 50);
        due("21 the other slot", x.restore(1), NOT_POSSIBLE);
    }
}
