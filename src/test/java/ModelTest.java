import java.util.ArrayList;
import java.util.Arrays;
import java.util.List;
import java.util.Random;

/**
 * Mixed runs of 512 calls, on one object alone and on two in turn, each answer beside that of a plain
 * model. The model keeps whole chunks and judges them at the mark, where the program decodes as it reads.
 */
public final class ModelTest extends FramingTest {
    private static final int RUNS_ALONE = 4000;
    private static final int RUNS_IN_TURN = 1000;
    private static final int WRONG_ENOUGH = 20;
    /** What comparing all but single bytes needs at a run's end. */
    private static final int CALLS_TO_COMPARE = 31;
    /** Marks, escapes and their neighbours come often, as chance alone would seldom bring them. */
    private static final int[] TELLING = {0, 1, 2, 3, 93, 94, 125, 126, 192, 219, 220, 221, 254, 255};
    private static final int[] ODD = {-1, 3, Integer.MIN_VALUE, Integer.MAX_VALUE};
    private static final int[] VERDICTS_SEEN = new int[4];

    public static void main(String[] args) {
        about("run/call");
        for (int run = 0; run < RUNS_ALONE && wrongAnswers() < WRONG_ENOUGH; run++) {
            runAlone(run);
        }
        for (int run = 0; run < RUNS_IN_TURN && wrongAnswers() < WRONG_ENOUGH; run++) {
            runInTurn(run);
        }
        for (int verdict = 0; verdict < 4; verdict++) {
            due("verdict " + verdict + " came often", VERDICTS_SEEN[verdict] >= 1000, true);
        }
        finish();
    }

    private static void runAlone(int seed) {
        Run run = new Run(seed, String.valueOf(seed));
        while (run.goesOn()) {
            run.oneCall();
        }
        run.compareState();
    }

    private static void runInTurn(int seed) {
        Random turns = new Random(seed);
        Run one = new Run(2 * seed, "one of " + seed);
        Run other = new Run(2 * seed + 1, "other of " + seed);
        while (one.goesOn() || other.goesOn()) {
            Run next = turns.nextBoolean() ? one : other;
            if (next.goesOn()) {
                next.oneCall();
            }
        }
        one.compareState();
        other.compareState();
    }

    /** An object and its model, and the calls that chance brings to both. */
    private static final class Run {
        private final Random random;
        private final String name;
        private final CountedTrio x = new CountedTrio();
        private final Model m = new Model();
        private final int taste;
        private final int callsLeftAtEnd;
        private int steps = 0;

        Run(int seed, String name) {
            random = new Random(seed);
            this.name = name;
            taste = random.nextInt(4);
            callsLeftAtEnd = CALLS_TO_COMPARE + random.nextInt(300);
        }

        boolean goesOn() {
            return x.callsLeft() > callsLeftAtEnd && wrongAnswers() < WRONG_ENOUGH;
        }

        void oneCall() {
            String at = name + "/" + steps;
            steps++;
            int way = random.nextInt(30) == 0 ? ODD[random.nextInt(4)] : random.nextInt(3);
            switch (random.nextInt(16)) {
                case 0, 1, 2, 3, 4 -> feed(at);
                case 5 -> {
                    int n = random.nextInt(10) == 0 ? ODD[random.nextInt(4)] : m.tape.size() - random.nextInt(22) + 1;
                    due(at + " end", x.end(n), m.end(n));
                }
                case 6 -> {
                    int n = random.nextInt(3) == 0 ? 398 + random.nextInt(5) : random.nextInt(60) - 1;
                    due(at + " limit", x.limit(n), m.limit(n));
                }
                case 7, 8 -> due(at + " tell " + way, x.tell(way), m.tell(way));
                case 9 -> {
                    int i = random.nextInt(m.stream.size() + 3) - 1;
                    int mask = random.nextBoolean() ? random.nextInt() : 0;
                    due(at + " spoil " + i, x.spoil(i, mask), m.spoil(i, mask));
                }
                case 10, 11 -> come(way, at);
                case 12 -> {
                    if (random.nextInt(3) == 0) {
                        due(at + " all " + way, x.all(way), m.all(way));
                    }
                }
                case 13 -> {
                    if (random.nextInt(3) == 0) {
                        due(at + " raw " + way, x.raw(way), m.raw(way));
                    }
                }
                case 14 -> {
                    int what = random.nextInt(6) - 1;
                    due(at + " count " + way + " " + what, x.count(way, what), m.count(way, what));
                }
                default -> compareOneByte(at);
            }
        }

        private void feed(String at) {
            int[] n = new int[5];
            for (int i = 0; i < 5; i++) {
                n[i] = number(random, taste);
            }
            due(at + " feed", x.feed(n[0], n[1], n[2], n[3], n[4]), m.feed(n));
        }

        private void come(int way, String at) {
            int b = random.nextBoolean() ? mark(way) : oneByte(random, taste) - 256 * random.nextInt(3);
            int verdict = m.come(way, b);
            due(at + " come " + way + " " + b, x.come(way, b), verdict);
            VERDICTS_SEEN[Math.max(0, verdict)]++;
        }

        void compareState() {
            String at = "at the end of " + name;
            due(at + " written", x.written(), m.stream.size());
            for (int way = -1; way <= 3; way++) {
                due(at + " latest " + way, x.latest(way), m.latest(way));
                for (int what = 0; what <= 4; what++) {
                    due(at + " count " + way + " " + what, x.count(way, what), m.count(way, what));
                }
            }
            while (x.callsLeft() > 0) {
                compareOneByte(at);
            }
        }

        private void compareOneByte(String at) {
            int way = random.nextInt(5) - 1;
            if (way == 3) {
                int i = random.nextInt(m.stream.size() + 2) - 1;
                due(at + " writtenAt " + i, x.writtenAt(i), at(m.stream, i));
            } else {
                int i = random.nextInt(Math.max(0, m.latest(way)) + 2) - 1;
                due(at + " latestAt " + way + " " + i, x.latestAt(way, i), m.latestAt(way, i));
            }
        }
    }

    private static int at(List<Integer> row, int i) {
        return i < 0 || i >= row.size() ? -1 : row.get(i);
    }

    private static int mark(int way) {
        return way < 0 || way > 2 ? 126 : MARKS[way];
    }

    private static int number(Random random, int taste) {
        int number = 0;
        for (int i = 0; i < 4; i++) {
            number = number << 8 | oneByte(random, taste);
        }
        return number;
    }

    private static int oneByte(Random random, int taste) {
        return switch (taste) {
            case 0 -> random.nextInt(256);
            case 1 -> TELLING[random.nextInt(TELLING.length)];
            case 2 -> random.nextInt(200) == 0 ? random.nextInt(256) : 77;
            default -> random.nextInt(5) == 0 ? TELLING[random.nextInt(TELLING.length)] : 1 + random.nextInt(4);
        };
    }

    private static final class Model {
        List<Integer> tape = new ArrayList<>();
        List<Integer> stream = new ArrayList<>();
        List<List<Integer>> chunks = new ArrayList<>();
        List<List<Integer>> kept = new ArrayList<>(Arrays.asList(null, null, null));
        int[][] counts = new int[3][4];
        int limit = 400;

        Model() {
            for (int way = 0; way < 3; way++) {
                chunks.add(new ArrayList<>());
            }
        }

        boolean feed(int[] numbers) {
            if (tape.size() + 20 > 400) {
                return false;
            }
            for (int n : numbers) {
                tape.addAll(List.of(n >>> 24, n >> 16 & 255, n >> 8 & 255, n & 255));
            }
            return true;
        }

        boolean end(int n) {
            if (n < 0 || n > tape.size()) {
                return false;
            }
            tape = new ArrayList<>(tape.subList(0, n));
            return true;
        }

        boolean limit(int n) {
            boolean fine = n >= 1 && n <= 400;
            limit = fine ? n : limit;
            return fine;
        }

        int tell(int way) {
            List<Integer> payload = tape;
            tape = new ArrayList<>();
            if (way < 0 || way > 2 || payload.size() > limit || payload.isEmpty() && way > 0) {
                return -1;
            }
            List<Integer> frame = way == 0 ? grouped(payload) : way == 1 ? escaped(payload) : checked(payload);
            if (stream.size() + frame.size() > 2000) {
                return -1;
            }
            stream.addAll(frame);
            return stream.size();
        }

        /** Parts the payload and its 0 group by group, as the document tells it. */
        static List<Integer> grouped(List<Integer> payload) {
            List<Integer> left = new ArrayList<>(payload);
            left.add(0);
            List<Integer> frame = new ArrayList<>();
            boolean full = false;
            while (!left.isEmpty()) {
                int n = Math.min(left.indexOf(0), 254);
                if (!(full && n == 0 && left.size() == 1)) {
                    frame.add(n + 1);
                    frame.addAll(left.subList(0, n));
                }
                full = n == 254;
                left = left.subList(full ? n : n + 1, left.size());
            }
            frame.add(0);
            return frame;
        }

        static List<Integer> escaped(List<Integer> payload) {
            List<Integer> frame = new ArrayList<>();
            for (int b : payload) {
                frame.addAll(b == 192 ? List.of(219, 220) : b == 219 ? List.of(219, 221) : List.of(b));
            }
            frame.add(192);
            return frame;
        }

        static List<Integer> checked(List<Integer> payload) {
            int check = check(payload);
            List<Integer> plain = new ArrayList<>(payload);
            plain.add(check & 255);
            plain.add(check >> 8);
            List<Integer> frame = new ArrayList<>();
            for (int b : plain) {
                frame.addAll(b == 125 ? List.of(125, 93) : b == 126 ? List.of(125, 94) : List.of(b));
            }
            frame.add(126);
            return frame;
        }

        /** The mirrored register, shifted to the left, is turned round only at the end. */
        static int check(List<Integer> payload) {
            int register = 0xFFFF;
            for (int b : payload) {
                for (int bit = 0; bit < 8; bit++) {
                    boolean turn = (b >> bit & 1) != (register >> 15);
                    register = register << 1 & 0xFFFF ^ (turn ? 0x1021 : 0);
                }
            }
            return Integer.reverse(register) >>> 16 ^ 0xFFFF;
        }

        boolean spoil(int i, int mask) {
            if (i < 0 || i >= stream.size()) {
                return false;
            }
            stream.set(i, stream.get(i) ^ mask & 255);
            return true;
        }

        int come(int way, int b) {
            if (way < 0 || way > 2) {
                return -1;
            }
            if ((b & 255) != mark(way)) {
                chunks.get(way).add(b & 255);
                return 0;
            }
            List<Integer> chunk = chunks.set(way, new ArrayList<>());
            if (chunk.isEmpty() && way > 0) {
                return 0;
            }
            List<Integer> payload = way == 0 ? ungrouped(chunk) : way == 1 ? unescaped(chunk) : unchecked(chunk);
            int verdict = payload == null ? 2 : payload.size() > limit ? 3 : 1;
            counts[way][verdict]++;
            if (verdict == 1) {
                kept.set(way, payload);
            }
            return verdict;
        }

        static List<Integer> ungrouped(List<Integer> chunk) {
            List<Integer> payload = new ArrayList<>();
            int i = 0;
            while (i < chunk.size()) {
                int stop = i + chunk.get(i);
                if (stop > chunk.size()) {
                    return null;
                }
                payload.addAll(chunk.subList(i + 1, stop));
                if (stop < chunk.size() && chunk.get(i) != 255) {
                    payload.add(0);
                }
                i = stop;
            }
            return chunk.isEmpty() ? null : payload;
        }

        static List<Integer> unescaped(List<Integer> chunk) {
            List<Integer> payload = new ArrayList<>();
            for (int i = 0; i < chunk.size(); i++) {
                int b = chunk.get(i);
                if (b == 219) {
                    i++;
                    int behind = i < chunk.size() ? chunk.get(i) : -1;
                    if (behind != 220 && behind != 221) {
                        return null;
                    }
                    b = behind == 220 ? 192 : 219;
                }
                payload.add(b);
            }
            return payload;
        }

        static List<Integer> unchecked(List<Integer> chunk) {
            List<Integer> plain = new ArrayList<>();
            for (int i = 0; i < chunk.size(); i++) {
                int b = chunk.get(i);
                if (b == 125) {
                    i++;
                    if (i == chunk.size() || chunk.get(i) == 125) {
                        return null;
                    }
                    b = chunk.get(i) ^ 32;
                }
                plain.add(b);
            }
            int n = plain.size() - 2;
            if (n < 1 || check(plain.subList(0, n)) != (plain.get(n) | plain.get(n + 1) << 8)) {
                return null;
            }
            return new ArrayList<>(plain.subList(0, n));
        }

        int all(int way) {
            if (way < 0 || way > 2) {
                return -1;
            }
            List<Integer> gone = stream;
            stream = new ArrayList<>();
            return comeAll(way, gone);
        }

        int raw(int way) {
            List<Integer> gone = tape;
            tape = new ArrayList<>();
            return way < 0 || way > 2 ? -1 : comeAll(way, gone);
        }

        private int comeAll(int way, List<Integer> row) {
            int good = 0;
            for (int b : row) {
                int verdict = come(way, b);
                VERDICTS_SEEN[verdict]++;
                good += verdict == 1 ? 1 : 0;
            }
            return good;
        }

        int latest(int way) {
            return way < 0 || way > 2 || kept.get(way) == null ? -1 : kept.get(way).size();
        }

        int latestAt(int way, int i) {
            return latest(way) < 0 ? -1 : at(kept.get(way), i);
        }

        int count(int way, int what) {
            return way < 0 || way > 2 || what < 1 || what > 3 ? -1 : counts[way][what];
        }
    }
}
