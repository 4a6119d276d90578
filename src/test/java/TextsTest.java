/** The edges of texts: the words under 'Texts', and promises 15 to 18. */
public final class TextsTest extends Checks {
    private static final String DIGITS = "0123456789";
    private static final String ORDERS = "0123fbnz";

    /** What a reader may have read, and the characters that can stand behind it; with "." the text may end there. */
    private static final String[][] READ = {
        {"", ORDERS}, {"z;", ORDERS}, {"0*7;", ORDERS},
        {"0", ".i*,;"}, {"3", ".i*,;"}, {"2i", ".*,;"},
        {"1*", DIGITS}, {"1i*", DIGITS}, {"1*0", ".,;"}, {"1i*0", ".,;"},
        {"1*9", ".,;" + DIGITS}, {"1i*10", ".,;" + DIGITS}, {"1*999", ".,;"}, {"1*100", ".,;"},
        {"0,", "0123"}, {"0i*5,", "0123"}, {"0,1", ".i*,;"}, {"z;0,1i", ".*,;"},
        {"f", DIGITS}, {"f0", ".;"}, {"f1", ".;" + DIGITS}, {"f90", ".;" + DIGITS}, {"f999", ".;"}, {"f100", ".;"},
        {"b", DIGITS}, {"b0", ".;"}, {"b9", ".;" + DIGITS}, {"b10", ".;" + DIGITS}, {"b999", ".;"}, {"b100", ".;"},
        {"n", "123456789"}, {"n1", ".;"}, {"n9", ".;"}, {"z", ".;"}, {"z;z", ".;"}};

    public static void main(String[] args) {
        faultIsTheFirstCharacterThatCannotStand();
        faultIsTheLengthIfTheTextEndsTooEarly();
        noNumberIsAbove999();
        faultOfAFullPad();
        faultIsTheFirstOne();

        runIsFedForSoManyTicks();
        runsGoUpToTheFirstError();
        turnsForwardsAndBackwards();
        nSetsTheFilter();
        zIsZero();

        putTakes1To8Characters();
        putTakesCodes33To126();
        putRefusesBitsAboveAZero();
        putFillsThePadTo80();
        putTakesTheLowestBitsAsTheLast();
        wipeEmpties();
        carryOutEmptiesThePad();
        carryOutIsOneChange();
        carryOutStopsAtTheFirstError();
        carryOutRefusesAFault();
        carryOutOfFullPads();
        carryOutAtTheMostTicks();
        end("TextsTest");
    }

    // ---- Texts

    private static void faultIsTheFirstCharacterThatCannotStand() {
        sentence("Texts: The fault is the index of the first character that cannot stand at its place");
        for (String[] read : READ) {
            for (char sign = 33; sign <= 126; sign++) {
                boolean stands = sign != '.' && read[1].indexOf(sign) >= 0;
                boolean faulty = faultOf(read[0] + sign) == read[0].length();
                due(read[0] + " and then " + sign, faulty ? 0 : 1, stands ? 1 : 0);
            }
        }
    }

    private static void faultIsTheLengthIfTheTextEndsTooEarly() {
        sentence("Texts: if there is none and the text ends too early (also if it is empty), it is the length of the text");
        due("an empty pad", new StepPairs().fault(), 0);
        for (String[] read : READ) {
            due(read[0] + " and then the end", faultOf(read[0]), read[1].charAt(0) == '.' ? NONE : read[0].length());
        }
    }

    private static void noNumberIsAbove999() {
        sentence("Texts: a number 0 to 999, without leading zeros (also of a digit by which a number would be above 999)");
        for (String ahead : new String[] {"f", "b", "0*", "3i*", "z;f", "0,1*"}) {
            int at = ahead.length();
            due(ahead + "999", faultOf(ahead + "999"), NONE);
            due(ahead + "1000", faultOf(ahead + "1000"), at + 3);
            due(ahead + "9990", faultOf(ahead + "9990"), at + 3);
            due(ahead + "0", faultOf(ahead + "0"), NONE);
            due(ahead + "00", faultOf(ahead + "00"), at + 1);
            due(ahead + "01", faultOf(ahead + "01"), at + 1);
            due(ahead + "100", faultOf(ahead + "100"), NONE);
            due(ahead + "10", faultOf(ahead + "10"), NONE);
        }
    }

    private static void faultOfAFullPad() {
        sentence("Texts: The pad is a text of at most 80 characters");
        due("it ends too early behind ;", faultOf(filled("z;", 80)), 80);
        due("it ends too early behind ,", faultOf(filled("0,", 80)), 80);
        due("it ends too early behind *", faultOf(filled("z;", 78) + "1*"), 80);
        due("its last character cannot stand", faultOf(filled("z;", 79) + "z"), 79);
        due("runs alone", faultOf(filled("0,", 78) + "3i"), NONE);
        due("orders alone", faultOf(filled("z;", 78) + "n9"), NONE);
        due("a number of three digits at the end", faultOf(filled("z;", 76) + "f999"), NONE);
        due("a number of four digits at the end", faultOf(filled("z;", 74) + "0*1000"), 79);
    }

    private static void faultIsTheFirstOne() {
        sentence("Fault: the first character, when the text is read from left to right");
        due("two of them", faultOf("z;!;?"), 2);
        due("a fault ahead of an early end", faultOf("z?;f"), 1);
        due("no capital letters", faultOf("Z"), 0);
        due("no sign for a number", faultOf("f-1"), 1);
        StepPairs x = new StepPairs();
        put(x, "0,");
        due("ends too early", x.fault(), 2);
        put(x, "1");
        due("no more", x.fault(), NONE);
        due("asked again", x.fault(), NONE);
        put(x, "f");
        due("a fault again", x.fault(), 3);
        counts("the pad stays", x, 15, 4, 0);
    }

    private static void runIsFedForSoManyTicks() {
        sentence("Texts: feed() a pair, with the index 1 if \"i\" is told, for so many ticks (1, if it is left out)");
        StepPairs x = new StepPairs();
        due("one order of four runs", carryOut(x, "1,3i,2*3,0i*2"), 1);
        counts("in all", x, 0, 7, 4, 0, 0, 1, 4, 0, 0, 2);
        int[] pairs = {0, 0, 2, 2, 2, 3, 1};
        int[] indexes = {1, 1, 0, 0, 0, 1, 0};
        for (int ago = 0; ago < 7; ago++) {
            due("pair " + ago, x.log(ago, 0), pairs[ago]);
            due("index " + ago, x.log(ago, 1), indexes[ago]);
        }
        for (int pair = 0; pair < 4; pair++) {
            StepPairs y = new StepPairs();
            due("pair " + pair, carryOut(y, pair + "*99"), 1);
            counts("pair " + pair, y, 0, 99);
            due("pair " + pair, y.count(3), pair);
        }
        StepPairs z = new StepPairs();
        due("*1", carryOut(z, "1*1"), 1);
        due("*1", z.count(0), 1);
    }

    private static void runsGoUpToTheFirstError() {
        sentence("Texts: up to the first one that returns an error, which the order returns (those ahead of it stay)");
        StepPairs x = new StepPairs();
        due("*0", carryOut(x, "z;1,3*2,2*0,0"), 1);
        counts("the runs ahead stay", x, 0, 3, 2, 2, 3);
        StepPairs y = new StepPairs();
        due("*100 at first", carryOut(y, "1*100,1;z"), 0);
        due("no tick", y.count(0), 0);
        StepPairs z = new StepPairs();
        due("the next order is not reached", carryOut(z, "1,0*100;3;2"), 0);
        counts("the next order is not reached", z, 0, 1, 1, 1, 1);
    }

    private static void turnsForwardsAndBackwards() {
        sentence("Texts: \"f\": turn() so many steps forwards, \"b\": backwards");
        int[] steps = {1, 2, 10, 99};
        for (int many : steps) {
            StepPairs x = new StepPairs();
            due("f" + many, carryOut(x, "f" + many), 1);
            counts("f" + many, x, 0, many, many);
            due("f" + many, x.count(4), 1);
            StepPairs y = new StepPairs();
            due("b" + many, carryOut(y, "b" + many), 1);
            counts("b" + many, y, 0, many, 1000 - many);
            due("b" + many, y.count(4), 2);
        }
        for (String refused : new String[] {"f0", "b0", "f100", "b100", "f999", "b999"}) {
            StepPairs x = new StepPairs();
            due(refused, carryOut(x, refused + ";z;f1"), 0);
            counts(refused, x, 0, 0, 0, 0, 0, 0, 0, 0, 0, 0, 0);
        }
    }

    private static void nSetsTheFilter() {
        sentence("Texts: \"n\": set() of FILTER");
        for (int filter = 1; filter <= 9; filter++) {
            StepPairs x = new StepPairs();
            due("n" + filter, carryOut(x, "n" + filter + ";f2"), 2);
            counts("n" + filter, x, 10, 40, 1000, filter, 10, 1);
            due("n" + filter + " is used by the next order", x.count(0), 2 * filter);
        }
    }

    private static void zIsZero() {
        sentence("Texts: \"z\": zero()");
        StepPairs x = new StepPairs();
        due("z", carryOut(x, "f9;z"), 2);
        counts("z", x, 0, 9, 0, 0, 1, 1, 9);
        due("z and a step", carryOut(x, "f1;z;f2"), 3);
        counts("z and a step", x, 1, 2, 2);
    }

    // ---- put

    private static void putTakes1To8Characters() {
        sentence("put: 1 to 8 characters; BAD_VALUE if there is no character");
        due("none", new StepPairs().put(0L), BAD_VALUE);
        for (int many = 1; many <= 8; many++) {
            StepPairs x = new StepPairs();
            due(many + " characters", x.put(packed(filled("z;", many))), many);
            due(many + " more", x.put(packed(filled("z;", many))), 2 * many);
            counts(many + " characters twice", x, 15, 2 * many, 0);
        }
    }

    private static void putTakesCodes33To126() {
        sentence("put: BAD_VALUE if a code is not 33 to 126");
        for (int code = 1; code <= 255; code++) {
            boolean right = code >= 33 && code <= 126;
            due("code " + code, new StepPairs().put(code), right ? 1 : BAD_VALUE);
            for (int at = 0; at < 8; at++) {
                long characters = packed("zzzzzzzz") & ~(255L << 8 * at) | (long) code << 8 * at;
                due("code " + code + " at " + at, new StepPairs().put(characters), right ? 8 : BAD_VALUE);
            }
        }
    }

    private static void putRefusesBitsAboveAZero() {
        sentence("put: BAD_VALUE if a bit above 8 bits that are 0 is not 0");
        for (int zero = 0; zero < 7; zero++) {
            long below = zero == 0 ? 0 : packed(filled("z;", zero));
            for (int bit = 8 * zero + 8; bit < 64; bit++) {
                due("bits " + zero + ", bit " + bit, new StepPairs().put(below | 1L << bit), BAD_VALUE);
            }
            due("bits " + zero + ", a character", new StepPairs().put(below | (long) 'z' << 8 * zero + 8), BAD_VALUE);
        }
        due("all bits", new StepPairs().put(-1L), BAD_VALUE);
        due("the highest bit alone", new StepPairs().put(Long.MIN_VALUE), BAD_VALUE);
        due("all bits but the highest one", new StepPairs().put(Long.MAX_VALUE), BAD_VALUE);
    }

    private static void putFillsThePadTo80() {
        sentence("put: TOO_MANY if the pad would be longer than 80");
        for (int many = 1; many <= 8; many++) {
            StepPairs x = new StepPairs();
            put(x, filled("z;", 80 - many));
            for (int more = many + 1; more <= 8; more++) {
                due("too many, " + more, x.put(packed(filled("z;", more))), TOO_MANY);
            }
            counts("nothing is appended", x, 15, 80 - many);
            due("just not too many, " + many, x.put(packed(filled("z;", many))), 80);
            due("it is full", x.put('z'), TOO_MANY);
            due("it is full for 8", x.put(packed("zzzzzzzz")), TOO_MANY);
            counts("full", x, 15, 80, 0);
            due("emptied", x.wipe(), 80);
            due("and filled again", x.put('z'), 1);
        }
    }

    private static void putTakesTheLowestBitsAsTheLast() {
        sentence("put: its lowest 8 bits are the last character, the next 8 bits the one before, and so on");
        StepPairs x = new StepPairs();
        due("8 of them", x.put(0x6631323B31692A33L), 8);
        due("the text is f12;1i*3", x.carryOut(), 2);
        counts("the text is f12;1i*3", x, 0, 15, 13, 0);
        StepPairs y = new StepPairs();
        y.put('f');
        y.put('2' << 8 | '3');
        due("it is appended behind what there is", y.carryOut(), 1);
        due("it is appended behind what there is", y.count(1), 23);
    }

    // ---- wipe and carryOut

    private static void wipeEmpties() {
        sentence("wipe: Empties the pad, and returns the length that it had");
        StepPairs x = new StepPairs();
        due("of an empty one", x.wipe(), 0);
        put(x, "z");
        due("of one", x.wipe(), 1);
        due("of an empty one again", x.wipe(), 0);
        put(x, filled("z;", 80));
        due("of a full one", x.wipe(), 80);
        counts("empty", x, 15, 0, 0);
        due("empty", x.fault(), 0);
        put(x, "f");
        due("nothing of the old one is left", x.fault(), 1);
    }

    private static void carryOutEmptiesThePad() {
        sentence("carryOut: Carries the orders of the pad out, and empties the pad");
        StepPairs x = new StepPairs();
        due("all orders", carryOut(x, "f1;1;z"), 3);
        counts("empty", x, 15, 0, 1);
        due("empty, so with a fault", x.carryOut(), BAD_TEXT);
        due("no order", carryOut(x, "f0"), 0);
        counts("empty also then", x, 15, 0, 2);
        due("filled anew", put(x, "b1"), 2);
    }

    private static void carryOutIsOneChange() {
        sentence("carryOut: This is a change (one, with all of them; also if none is carried out)");
        StepPairs x = new StepPairs();
        x.turn(4);
        due("six orders", carryOut(x, "f1;n3;f2;z;b1;0*9"), 6);
        due("one change", x.count(16), 2);
        due("none is carried out", carryOut(x, "b0;f5"), 0);
        due("a change all the same", x.count(16), 3);
        due("undone", x.undo(), 2);
        due("nothing was different", x.count(12), 3);
        due("all six undone", x.undo(), 1);
        counts("all six undone", x, 0, 4, 4, 4, 0, 1, 4, 0, 0, 0, 4, 40, 1000, 1, 10, 1, 0, 1);
        for (int i = 0; i < 6; i++) {
            x.zero();
        }
        due("with a full history", carryOut(x, "f1;f1"), 2);
        due("with a full history", x.count(16), 6);
    }

    private static void carryOutStopsAtTheFirstError() {
        sentence("carryOut: one after the other, up to the first one that returns an error; returns how many were carried out");
        String[] orders = {"f1", "n2", "1*3", "z", "b2"};
        for (int bad = 0; bad <= 5; bad++) {
            StringBuilder text = new StringBuilder();
            for (int i = 0; i < 5; i++) {
                text.append(i == 0 ? "" : ";").append(i == bad ? "0*0" : orders[i]);
            }
            due("an error in order " + bad, carryOut(new StepPairs(), text.toString()), bad);
        }
        StepPairs x = new StepPairs();
        due("those ahead of it stay", carryOut(x, "f3;n4;f100;z;n9"), 2);
        counts("those ahead of it stay", x, 0, 3, 3, 3, 2);
        due("those behind it are not carried out", x.count(12), 4);
    }

    private static void carryOutRefusesAFault() {
        sentence("carryOut: BAD_TEXT if the pad has a fault (then it stays)");
        for (String text : new String[] {"", "f1;", "f1;x", "f", "x;f1", "f1,2", "n0"}) {
            StepPairs x = new StepPairs();
            due("the text " + text, carryOut(x, text), BAD_TEXT);
            counts("no order is carried out: " + text, x, 0, 0, 0, 0, 0, 0, 0, 0, 0, 0, 0);
            counts("the pad stays, no change: " + text, x, 15, text.length(), 0);
        }
        StepPairs y = new StepPairs();
        due("it ends too early", carryOut(y, "f1;"), BAD_TEXT);
        due("it stays, and can be mended", carryOut(y, "f2"), 2);
        due("it stays, and can be mended", y.count(1), 3);
    }

    private static void carryOutOfFullPads() {
        sentence("carryOut: of a pad of 80 characters");
        StepPairs x = new StepPairs();
        due("40 orders", carryOut(x, filled("z;", 78) + "n5"), 40);
        due("the last one, too", x.count(12), 5);
        StepPairs y = new StepPairs();
        due("40 runs", carryOut(y, filled("1,3,2,0,", 78) + "0i"), 1);
        counts("40 runs", y, 0, 40, 40, 0);
        StepPairs z = with(FILTER, 9);
        due("20 turns", carryOut(z, filled("f99;", 76) + "f98"), 20);
        due("20 turns", z.count(0), 9 * (19 * 99 + 98));
        StepPairs w = new StepPairs();
        due("16 long runs", carryOut(w, filled("0*99,", 75) + "0*99"), 1);
        due("16 long runs", w.count(0), 16 * 99);
    }

    private static void carryOutAtTheMostTicks() {
        sentence("carryOut: orders return NOT_POSSIBLE if there would be more than 99999 ticks");
        StepPairs x = after(MOST_TICKS - 5);
        due("the third run is too long", carryOut(x, "z;0*2,0*2,0*2;z"), 1);
        due("those ahead of it stay", x.count(0), MOST_TICKS - 1);
        due("a turn is too long", carryOut(x, "f1;0"), 0);
        due("none of its ticks", x.count(0), MOST_TICKS - 1);
        due("the last tick", carryOut(x, "0;n1;0;z"), 2);
        due("the last tick", x.count(0), MOST_TICKS);
        due("orders without ticks", carryOut(x, "z;n2;z"), 3);
    }
}
