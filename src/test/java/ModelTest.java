import java.util.ArrayDeque;
import java.util.ArrayList;
import java.util.Arrays;
import java.util.Deque;
import java.util.List;
import java.util.Random;
import java.util.regex.Matcher;
import java.util.regex.Pattern;

/** Runs of calls from fixed seeds, each answered by the class and by a plain model of the document. */
public final class ModelTest {
    private static final int RUNS = 1500;
    private static final int CALLS = 512;

    public static void main(String[] args) {
        int wrong = 0;
        for (int seed = 0; seed < RUNS && wrong < 5; seed++) {
            wrong += run(seed) ? 0 : 1;
        }
        System.out.println(wrong == 0 ? "ModelTest: " + RUNS + " runs are as the model's" : "ModelTest: " + wrong + " runs are not");
        if (wrong != 0) {
            System.exit(1);
        }
    }

    private static boolean run(int seed) {
        Random random = new Random(seed);
        StepPairs x = new StepPairs();
        Model model = new Model();
        Caller caller = new Caller(random);
        List<String> calls = new ArrayList<>();
        for (int i = 0; i < CALLS; i++) {
            caller.choose(model.pad.length() == 0);
            calls.add(caller.toString());
            long got = caller.call(x);
            long want = caller.call(model);
            if (got != want) {
                System.out.println("seed " + seed + ": " + String.join(" ", calls));
                System.out.println("answered " + got + ", the model answers " + want);
                return false;
            }
        }
        return true;
    }

    /** Chooses calls; some runs like long ticks, and some like noise. */
    private static final class Caller {
        private final Random random;
        private final boolean longTicks;
        private final int noise;
        private String waiting = "";
        private int method;
        private int a;
        private int b;
        private int c;
        private long characters;

        Caller(Random random) {
            this.random = random;
            longTicks = random.nextInt(4) == 0;
            noise = random.nextInt(3);
        }

        private int from(int least, int most) {
            if (random.nextInt(40) == 0) {
                int[] odd = {least - 1, most + 1, Integer.MIN_VALUE, Integer.MAX_VALUE, -1};
                return odd[random.nextInt(odd.length)];
            }
            return least + random.nextInt(most - least + 1);
        }

        void choose(boolean emptyPad) {
            if (!waiting.isEmpty()) {
                method = 14;
                characters = next8();
                return;
            }
            int[] likely = {1, 1, 1, 1, 2, 2, 0, 13, 13, 17};
            method = random.nextBoolean() ? likely[random.nextInt(likely.length)] : random.nextInt(21);
            switch (method) {
                case 0 -> chooseSetting();
                case 1 -> {
                    a = from(0, 3);
                    b = from(0, 1);
                    c = longTicks ? from(90, 99) : from(1, random.nextInt(8) == 0 ? 99 : 4);
                }
                case 2 -> a = noise == 0 ? from(-3, 3) : from(-99, 99);
                case 4 -> {
                    a = from(0, random.nextBoolean() ? 5 : 199);
                    b = from(0, 2);
                }
                case 5 -> a = from(0, 16);
                case 6, 10 -> a = from(0, 1);
                case 9 -> {
                    a = from(1, 9);
                    b = from(0, 3);
                }
                case 11, 12 -> a = from(0, 3);
                case 13, 14 -> choosePut(emptyPad);
                case 19, 20 -> a = from(0, 1);
                default -> {
                }
            }
        }

        private void chooseSetting() {
            int[] least = {4, 10, 1, 1, 0};
            int[] most = {400, 9999, 9, 99, 2};
            a = from(0, 4);
            int at = a < 0 || a > 4 ? 0 : a;
            b = from(least[at], at < 2 && random.nextBoolean() ? 40 : most[at]);
            if (at == 0 && random.nextInt(8) != 0) {
                b = b / 4 * 4;
            }
        }

        private void choosePut(boolean emptyPad) {
            method = 14;
            characters = random.nextInt(60) == 0 ? random.nextLong() >> random.nextInt(64) : 0;
            if (characters != 0 || random.nextInt(40) == 0) {
                return;
            }
            waiting = emptyPad ? text() : random.nextInt(3) == 0 ? ";" + text() : "";
            if (waiting.isEmpty()) {
                method = random.nextInt(4) == 0 ? 15 : 17;
                return;
            }
            characters = next8();
        }

        private long next8() {
            int many = Math.min(waiting.length(), 1 + random.nextInt(8));
            long packed = 0;
            for (int i = 0; i < many; i++) {
                packed = packed << 8 | waiting.charAt(i);
            }
            waiting = waiting.substring(many);
            return packed;
        }

        private String text() {
            StringBuilder text = new StringBuilder(order());
            for (int left = random.nextInt(6); left > 0; left--) {
                text.append(';').append(order());
            }
            if (random.nextInt(4) == 0) {
                int at = random.nextInt(text.length());
                String signs = "0123456789fbnzi*,;x";
                switch (random.nextInt(3)) {
                    case 0 -> text.setCharAt(at, signs.charAt(random.nextInt(signs.length())));
                    case 1 -> text.insert(at, signs.charAt(random.nextInt(signs.length())));
                    default -> text.setLength(Math.max(1, at));
                }
            }
            return text.toString();
        }

        private String order() {
            switch (random.nextInt(8)) {
                case 0:
                    return "f" + number();
                case 1:
                    return "b" + number();
                case 2:
                    return "n" + (1 + random.nextInt(9));
                case 3:
                    return "z";
                default:
                    StringBuilder runs = new StringBuilder(run());
                    for (int left = random.nextInt(5); left > 0; left--) {
                        runs.append(',').append(run());
                    }
                    return runs.toString();
            }
        }

        private String run() {
            String times = random.nextBoolean() ? "*" + number() : "";
            return random.nextInt(4) + (random.nextInt(4) == 0 ? "i" : "") + times;
        }

        private int number() {
            return random.nextInt(12) == 0 ? random.nextInt(1000) : random.nextInt(random.nextInt(4) == 0 ? 100 : 8);
        }

        long call(StepPairs x) {
            switch (method) {
                case 0: return x.set(a, b);
                case 1: return x.feed(a, b, c);
                case 2: return x.turn(a);
                case 3: return x.zero();
                case 4: return x.log(a, b);
                case 5: return x.count(a);
                case 6: return x.speed(a);
                case 7: return x.rate();
                case 8: return x.noise();
                case 9: return x.replay(a, b);
                case 10: return x.bestFilter(a);
                case 11: return x.would(a);
                case 12: return x.deeds(a);
                case 14: return x.put(characters);
                case 15: return x.wipe();
                case 16: return x.fault();
                case 17: return x.carryOut();
                case 18: return x.undo();
                case 19: return x.save(a);
                default: return x.restore(a);
            }
        }

        long call(Model x) {
            switch (method) {
                case 0: return x.set(a, b);
                case 1: return x.feed(a, b, c);
                case 2: return x.turn(a);
                case 3: return x.zero();
                case 4: return x.log(a, b);
                case 5: return x.count(a);
                case 6: return x.speed(a);
                case 7: return x.rate();
                case 8: return x.noise();
                case 9: return x.replay(a, b);
                case 10: return x.bestFilter(a);
                case 11: return x.would(a);
                case 12: return x.deeds(a);
                case 14: return x.put(characters);
                case 15: return x.wipe();
                case 16: return x.fault();
                case 17: return x.carryOut();
                case 18: return x.undo();
                case 19: return x.save(a);
                default: return x.restore(a);
            }
        }

        @Override
        public String toString() {
            String[] names = {"set", "feed", "turn", "zero", "log", "count", "speed", "rate", "noise", "replay", "bestFilter", "would",
                "deeds", "put", "put", "wipe", "fault", "carryOut", "undo", "save", "restore"};
            return names[method] + (method == 14 ? "(" + characters + ")" : "(" + a + "," + b + "," + c + ")");
        }
    }

    /** A tick that went by. */
    private record Tick(int pair, int index, int deed) {
    }

    /** Keeps every tick since the start, and looks back along them instead of counting as they go by. */
    private static final class Past {
        final int[] settings;
        final List<Tick> ticks;
        int count;
        int place;
        int slips;

        Past(int[] settings, List<Tick> ticks) {
            this.settings = settings.clone();
            this.ticks = new ArrayList<>(ticks);
        }

        Past copy() {
            Past copy = new Past(settings, ticks);
            copy.count = count;
            copy.place = place;
            copy.slips = slips;
            return copy;
        }

        int seen() {
            for (int i = ticks.size() - 1; i >= 0; i--) {
                if (ticks.get(i).deed() != 0) {
                    return ticks.get(i).pair();
                }
            }
            return 0;
        }

        int deedBy(int pair) {
            int seen = seen();
            if (pair == seen) {
                return 0;
            }
            for (int back = 1; back < settings[2]; back++) {
                int at = ticks.size() - back;
                if (at < 0 || ticks.get(at).pair() != pair) {
                    return 0;
                }
            }
            String forwards = "01320";
            if (forwards.contains("" + seen + pair)) {
                return 1;
            }
            return forwards.contains("" + pair + seen) ? 2 : 3;
        }

        void tick(int pair, int index) {
            int deed = deedBy(pair);
            boolean rises = index == 1 && (ticks.isEmpty() || ticks.get(ticks.size() - 1).index() == 0);
            if (deed == 1) {
                count = count == settings[1] - 1 ? 0 : count + 1;
                place = place == settings[0] - 1 ? 0 : place + 1;
            }
            if (deed == 2) {
                count = count == 0 ? settings[1] - 1 : count - 1;
                place = place == 0 ? settings[0] - 1 : place - 1;
            }
            if (rises && settings[4] == 1 && place != 0) {
                slips++;
                place = 0;
            }
            if (rises && settings[4] == 2) {
                place = 0;
                count = 0;
            }
            ticks.add(new Tick(pair, index, deed));
        }

        List<Tick> latest(int many) {
            return ticks.subList(Math.max(0, ticks.size() - many), ticks.size());
        }

        static int deedsIn(List<Tick> ticks, int deed) {
            int many = 0;
            for (Tick tick : ticks) {
                many += tick.deed() == deed ? 1 : 0;
            }
            return many;
        }

        int direction() {
            List<Integer> steps = latestSteps();
            return steps.isEmpty() ? 0 : ticks.get(steps.get(0)).deed();
        }

        /** The numbers of the ticks of the latest steps, two at most, the latest one ahead. */
        private List<Integer> latestSteps() {
            List<Integer> steps = new ArrayList<>();
            for (int i = ticks.size() - 1; i >= 0 && steps.size() < 2; i--) {
                if (ticks.get(i).deed() == 1 || ticks.get(i).deed() == 2) {
                    steps.add(i);
                }
            }
            return steps;
        }

        int period() {
            List<Integer> steps = latestSteps();
            if (steps.size() < 2 || ticks.get(steps.get(0)).deed() != ticks.get(steps.get(1)).deed()) {
                return -6;
            }
            return steps.get(0) - steps.get(1);
        }
    }

    private static final class Model {
        private static final Pattern TEXT;

        static {
            String number = "(0|[1-9][0-9]?[0-9]?)";
            String run = "[0-3]i?(\\*" + number + ")?";
            String order = "(" + run + "(," + run + ")*|[fb]" + number + "|n[1-9]|z)";
            TEXT = Pattern.compile(order + "(;" + order + ")*");
        }

        private Past now = new Past(new int[] {40, 1000, 1, 10, 1}, List.of());
        private final Deque<Past> history = new ArrayDeque<>();
        private final Past[] slots = new Past[2];
        String pad = "";

        private void record(Past before) {
            history.addLast(before);
            if (history.size() > 6) {
                history.removeFirst();
            }
        }

        private int changed(Past before, int answer) {
            if (answer >= 0) {
                record(before);
            }
            return answer;
        }

        int set(int setting, int value) {
            return changed(now.copy(), doSet(setting, value));
        }

        private int doSet(int setting, int value) {
            int[] least = {4, 10, 1, 1, 0};
            int[] most = {400, 9999, 9, 99, 2};
            boolean good = setting >= 0 && setting <= 4 && value >= least[setting] && value <= most[setting];
            if (!good || setting == 0 && value % 4 != 0) {
                return -2;
            }
            int previous = now.settings[setting];
            now.settings[setting] = value;
            now.place %= now.settings[0];
            now.count %= now.settings[1];
            return previous;
        }

        int feed(int pair, int index, int ticks) {
            return changed(now.copy(), doFeed(pair, index, ticks));
        }

        private int doFeed(int pair, int index, int ticks) {
            if (pair < 0 || pair > 3 || index < 0 || index > 1 || ticks < 1 || ticks > 99) {
                return -2;
            }
            if (now.ticks.size() + ticks > 99999) {
                return -5;
            }
            int before = count(5) + count(6);
            for (int i = 0; i < ticks; i++) {
                now.tick(pair, index);
            }
            return count(5) + count(6) - before;
        }

        int turn(int steps) {
            return changed(now.copy(), doTurn(steps));
        }

        private int doTurn(int steps) {
            if (steps == 0 || steps < -99 || steps > 99) {
                return -2;
            }
            if (now.ticks.size() + Math.abs(steps) * now.settings[2] > 99999) {
                return -5;
            }
            int[] next = {1, 3, 0, 2};
            int[] ahead = {2, 0, 3, 1};
            for (int i = 0; i < Math.abs(steps); i++) {
                int pair = steps > 0 ? next[now.seen()] : ahead[now.seen()];
                for (int j = 0; j < now.settings[2]; j++) {
                    now.tick(pair, 0);
                }
            }
            return now.count;
        }

        int zero() {
            return changed(now.copy(), doZero());
        }

        private int doZero() {
            int previous = now.count;
            now.count = 0;
            now.place = 0;
            return previous;
        }

        int log(int ago, int what) {
            List<Tick> log = now.latest(200);
            if (ago < 0 || ago >= log.size()) {
                return -1;
            }
            Tick tick = log.get(log.size() - 1 - ago);
            return what == 0 ? tick.pair() : what == 1 ? tick.index() : what == 2 ? tick.deed() : -2;
        }

        int count(int what) {
            if (what < 0 || what > 16) {
                return -2;
            }
            if (what >= 5 && what <= 7) {
                return Past.deedsIn(now.ticks, what - 4);
            }
            int[] settings = now.settings;
            int[] numbers = {now.ticks.size(), now.count, now.place, now.seen(), now.direction(), 0, 0, 0, now.slips, now.latest(200).size(),
                settings[0], settings[1], settings[2], settings[3], settings[4], pad.length(), history.size()};
            return numbers[what];
        }

        int speed(int what) {
            List<Tick> gate = now.latest(now.settings[3]);
            return what == 0 ? 1000 + Past.deedsIn(gate, 1) - Past.deedsIn(gate, 2) : what == 1 ? now.period() : -2;
        }

        long rate() {
            if (now.period() == -6) {
                return 0;
            }
            return Double.doubleToLongBits((now.direction() == 1 ? 1.0 : -1.0) / (double) (now.period() * now.settings[0]));
        }

        int noise() {
            int all = count(5) + count(6) + count(7);
            return all == 0 ? -6 : Float.floatToIntBits((float) count(7) / (float) all);
        }

        private Past replayed(int filter) {
            Past other = new Past(now.settings, List.of());
            other.settings[2] = filter;
            for (Tick tick : now.latest(200)) {
                other.tick(tick.pair(), tick.index());
            }
            return other;
        }

        int replay(int filter, int what) {
            if (filter < 1 || filter > 9 || what < 0 || what > 3) {
                return -2;
            }
            Past other = replayed(filter);
            return what == 3 ? other.count : Past.deedsIn(other.ticks, what + 1);
        }

        int bestFilter(int what) {
            if (what != 0 && what != 1) {
                return -2;
            }
            int[] illegal = new int[10];
            for (int filter = 1; filter <= 9; filter++) {
                illegal[filter] = replay(filter, 2);
            }
            int fewest = Arrays.stream(illegal, 1, 10).min().getAsInt();
            for (int filter = 1; filter <= 9; filter++) {
                if (illegal[filter] == fewest) {
                    return what == 0 ? filter : fewest;
                }
            }
            throw new IllegalStateException();
        }

        int would(int pair) {
            return pair < 0 || pair > 3 ? -2 : now.deedBy(pair);
        }

        int deeds(int deed) {
            return deed < 0 || deed > 3 ? -2 : Past.deedsIn(now.latest(200), deed);
        }

        int put(long characters) {
            String text = "";
            for (int i = 7; i >= 0; i--) {
                int code = (int) (characters >> 8 * i) & 255;
                if (code == 0 && text.isEmpty()) {
                    continue;
                }
                if (code < 33 || code > 126) {
                    return -2;
                }
                text += (char) code;
            }
            if (text.isEmpty()) {
                return -2;
            }
            if (pad.length() + text.length() > 80) {
                return -4;
            }
            pad += text;
            return pad.length();
        }

        int wipe() {
            int length = pad.length();
            pad = "";
            return length;
        }

        /** A character cannot stand at its place, if the text up to it neither is a text nor could become one. */
        int fault() {
            for (int length = 1; length <= pad.length(); length++) {
                Matcher matcher = TEXT.matcher(pad.substring(0, length));
                if (!matcher.matches() && !matcher.hitEnd()) {
                    return length - 1;
                }
            }
            return TEXT.matcher(pad).matches() ? -6 : pad.length();
        }

        int carryOut() {
            if (fault() != -6) {
                return -3;
            }
            Past before = now.copy();
            int carried = 0;
            for (String order : pad.split(";")) {
                if (carryOut(order) < 0) {
                    break;
                }
                carried++;
            }
            pad = "";
            record(before);
            return carried;
        }

        private int carryOut(String order) {
            String rest = order.substring(1);
            switch (order.charAt(0)) {
                case 'f':
                    return doTurn(Integer.parseInt(rest));
                case 'b':
                    return doTurn(-Integer.parseInt(rest));
                case 'n':
                    return doSet(2, Integer.parseInt(rest));
                case 'z':
                    return doZero();
                default:
                    for (String run : order.split(",")) {
                        int star = run.indexOf('*');
                        int ticks = star < 0 ? 1 : Integer.parseInt(run.substring(star + 1));
                        int answer = doFeed(run.charAt(0) - '0', run.contains("i") ? 1 : 0, ticks);
                        if (answer < 0) {
                            return answer;
                        }
                    }
                    return 0;
            }
        }

        int undo() {
            if (history.isEmpty()) {
                return -5;
            }
            now = history.removeLast();
            return history.size();
        }

        int save(int slot) {
            if (slot < 0 || slot > 1) {
                return -2;
            }
            slots[slot] = now.copy();
            return now.count;
        }

        int restore(int slot) {
            if (slot < 0 || slot > 1) {
                return -2;
            }
            if (slots[slot] == null) {
                return -5;
            }
            record(now);
            now = slots[slot].copy();
            return now.count;
        }
    }
}
