/** What the tests share: checks that count what is wrong, and short words for long rows of calls. */
abstract class Checks {
    static final int NO_SUCH = -1, BAD_VALUE = -2, BAD_TEXT = -3, TOO_MANY = -4, NOT_POSSIBLE = -5, NONE = -6;
    static final int TURN = 0, WRAP = 1, FILTER = 2, GATE = 3, INDEX = 4;
    static final int MOST_TICKS = 99999;

    /** Forwards the pairs come in this order. */
    static final int[] ORDER = {0, 1, 3, 2};

    private static int wrong = 0;
    private static String sentence = "";

    /** Tells which words of the document the checks that follow are about. */
    static void sentence(String words) {
        sentence = words;
    }

    static void due(String what, long got, long want) {
        if (got != want) {
            wrong++;
            System.out.println(sentence + (sentence.isEmpty() ? "" : " | ") + what + ": answered " + got + ", due is " + want);
        }
    }

    /** The numbers of count() from a first one on, side by side. */
    static void counts(String what, StepPairs x, int first, int... wanted) {
        for (int i = 0; i < wanted.length; i++) {
            due(what + ", count(" + (first + i) + ")", x.count(first + i), wanted[i]);
        }
    }

    /** Tells how many checks failed, and ends the test with exit code 1 if any did. */
    static void end(String test) {
        System.out.println(test + (wrong == 0 ? ": all answers are as due" : ": " + wrong + " are not"));
        if (wrong != 0) {
            System.exit(1);
        }
    }

    /** A new object, on which settings are set: a setting, its value, and so on. */
    static StepPairs with(int... settings) {
        StepPairs x = new StepPairs();
        for (int i = 0; i < settings.length; i += 2) {
            x.set(settings[i], settings[i + 1]);
        }
        return x;
    }

    /** Feeds pairs, each for a tick with the index 0. */
    static void feedPairs(StepPairs x, int... pairs) {
        for (int pair : pairs) {
            x.feed(pair, 0, 1);
        }
    }

    static void feedOften(StepPairs x, int pair, int ticks) {
        for (int left = ticks; left > 0; left -= 99) {
            x.feed(pair, 0, Math.min(left, 99));
        }
    }

    /** An object with FILTER 9 and so many ticks, from 99792 on: the steps of 112 turns, then pair 0. */
    static StepPairs after(int ticks) {
        StepPairs x = with(FILTER, 9);
        for (int i = 0; i < 112; i++) {
            x.turn(i % 2 == 0 ? 99 : -99);
        }
        feedOften(x, 0, ticks - 112 * 891);
        return x;
    }

    /** Up to 8 characters as the number that put() takes. */
    static long packed(String characters) {
        long number = 0;
        for (int i = 0; i < characters.length(); i++) {
            number = number << 8 | characters.charAt(i);
        }
        return number;
    }

    /** A row of characters, again and again, up to a length. */
    static String filled(String row, int length) {
        StringBuilder text = new StringBuilder();
        while (text.length() < length) {
            text.append(row);
        }
        return text.substring(0, length);
    }

    static int put(StepPairs x, String text) {
        int length = x.count(15);
        for (int from = 0; from < text.length(); from += 8) {
            length = x.put(packed(text.substring(from, Math.min(from + 8, text.length()))));
        }
        return length;
    }

    static int faultOf(String text) {
        StepPairs x = new StepPairs();
        put(x, text);
        return x.fault();
    }

    static int carryOut(StepPairs x, String text) {
        put(x, text);
        return x.carryOut();
    }
}
