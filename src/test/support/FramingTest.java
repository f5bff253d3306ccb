import java.io.ByteArrayOutputStream;
import java.util.Arrays;

/** What the tests share: answers that are due, rows of bytes, and the ways into an object and out of it. */
abstract class FramingTest {
    static final int NONE = -1;
    static final int[] NO_WAYS = {-1, 3, 4, 256, Integer.MIN_VALUE, Integer.MAX_VALUE};
    static final int[] MARKS = {0, 192, 126};
    private static final int MOST_TAPE = 400;

    private static int wrong = 0;
    private static String about = "";

    /** What the answers from here on are about; it stands ahead of each that is not as due. */
    static void about(String promise) {
        about = promise;
    }

    static int wrongAnswers() {
        return wrong;
    }

    static void finish() {
        System.out.println(wrong == 0 ? "all answers are as due" : wrong + " answers are not as due");
        if (wrong != 0) {
            System.exit(1);
        }
    }

    static void due(String call, boolean got, boolean want) {
        report(got == want, call, String.valueOf(got), String.valueOf(want));
    }

    static void due(String call, int got, int want) {
        report(got == want, call, String.valueOf(got), String.valueOf(want));
    }

    static void due(String call, String got, String want) {
        report(got.equals(want), call, got, want);
    }

    static void row(String call, byte[] got, byte[] want) {
        report(Arrays.equals(got, want), call, Arrays.toString(got), Arrays.toString(want));
    }

    private static void report(boolean fine, String call, String got, String want) {
        if (!fine) {
            wrong++;
            System.out.println(about + " " + call + ": answered " + got + ", due is " + want);
        }
    }

    static byte[] bytes(int... values) {
        byte[] row = new byte[values.length];
        for (int i = 0; i < row.length; i++) {
            row[i] = (byte) values[i];
        }
        return row;
    }

    static byte[] filled(int length, int value) {
        byte[] row = new byte[length];
        Arrays.fill(row, (byte) value);
        return row;
    }

    static byte[] join(byte[]... parts) {
        ByteArrayOutputStream out = new ByteArrayOutputStream();
        for (byte[] part : parts) {
            out.write(part, 0, part.length);
        }
        return out.toByteArray();
    }

    /** By the mirrored register, shifted to the left, so apart from how the program does it. */
    static byte[] checkOf(byte[] payload) {
        int register = 0xFFFF;
        for (byte b : payload) {
            for (int bit = 0; bit < 8; bit++) {
                int in = (b >> bit & 1) ^ (register >> 15 & 1);
                register = register << 1 & 0xFFFF ^ (in == 1 ? 0x1021 : 0);
            }
        }
        int check = Integer.reverse(register) >>> 16 ^ 0xFFFF;
        return bytes(check & 255, check >> 8);
    }

    /** The check as it stands in a frame of way 2. */
    static byte[] toldCheck(byte[] payload) {
        ByteArrayOutputStream out = new ByteArrayOutputStream();
        for (byte b : checkOf(payload)) {
            if (b == 125 || b == 126) {
                out.write(125);
                out.write(b ^ 32);
            } else {
                out.write(b);
            }
        }
        return out.toByteArray();
    }

    /** Puts the row on the tape, which must be empty. */
    static void lay(CountedTrio x, byte[] payload) {
        byte[] padded = Arrays.copyOf(payload, (payload.length + 19) / 20 * 20);
        for (int i = 0; i < padded.length; i += 20) {
            x.feed(number(padded, i), number(padded, i + 4), number(padded, i + 8), number(padded, i + 12),
                    number(padded, i + 16));
        }
        x.end(payload.length);
    }

    private static int number(byte[] from, int i) {
        return (from[i] & 255) << 24 | (from[i + 1] & 255) << 16 | (from[i + 2] & 255) << 8 | from[i + 3] & 255;
    }

    static int layAndTell(CountedTrio x, int way, byte[] payload) {
        x.end(0);
        lay(x, payload);
        return x.tell(way);
    }

    /** Lets the bytes come one by one; answers what the last one answered. */
    static int send(CountedTrio x, int way, byte[] stream) {
        int verdict = 0;
        for (byte b : stream) {
            verdict = x.come(way, b);
        }
        return verdict;
    }

    /** As send, with few calls: all but the last byte come by the tape. */
    static int pour(CountedTrio x, int way, byte[] stream) {
        int last = stream.length - 1;
        for (int i = 0; i < last; i += MOST_TAPE) {
            lay(x, Arrays.copyOfRange(stream, i, Math.min(last, i + MOST_TAPE)));
            x.raw(way);
        }
        return x.come(way, stream[last]);
    }

    static byte[] written(CountedTrio x) {
        byte[] row = new byte[x.written()];
        for (int i = 0; i < row.length; i++) {
            row[i] = oneByte("writtenAt " + i, x.writtenAt(i));
        }
        return row;
    }

    /** The latest good payload; null where there is none. */
    static byte[] latest(CountedTrio x, int way) {
        int size = x.latest(way);
        if (size < 0) {
            return null;
        }
        byte[] row = new byte[size];
        for (int i = 0; i < row.length; i++) {
            row[i] = oneByte("latestAt " + i, x.latestAt(way, i));
        }
        return row;
    }

    private static byte oneByte(String call, int b) {
        due(call + " is a byte", b >= 0 && b <= 255, true);
        return (byte) b;
    }

    /** The frame that a payload is told as on a new object, and that it is read again. */
    static void tells(int way, byte[] payload, byte[] frame) {
        String call = "5 tell(" + way + ") of " + Arrays.toString(payload);
        CountedTrio x = new CountedTrio();
        due(call, layAndTell(x, way, payload), frame.length);
        row(call, written(x), frame);
        CountedTrio again = new CountedTrio();
        layAndTell(again, way, payload);
        due(call + " is read", again.all(way), 1);
        row(call + " is read", latest(again, way), payload);
    }

    /** The verdict of the last byte on a new object, and the payload: null where none is good. */
    static void reads(int way, byte[] stream, int verdict, byte[] payload) {
        String call = "9 come(" + way + ") of " + Arrays.toString(stream);
        CountedTrio x = new CountedTrio();
        due(call, send(x, way, stream), verdict);
        for (int what = 1; what <= 3; what++) {
            due(call + " count " + what, x.count(way, what), what == verdict ? 1 : 0);
        }
        CountedTrio again = new CountedTrio();
        due(call + " by the tape", pour(again, way, stream), verdict);
        row(call + " latest", latest(again, way), payload);
    }
}
