/**
 * Three ways to mark where rows of bytes begin and end in a stream, told and read byte by byte.
 * What is spoilt harms nothing behind the next mark.
 */
public final class FramingTrio {
    public static final int NONE = -1;

    private static final int MOST_PAYLOAD = 400;
    private static final int MOST_WRITTEN = 2000;
    private static final int BYTES_PER_FEED = 20;
    private static final int LOW_BYTE = 255;

    private static final int NOTHING = 0;
    private static final int GOOD = 1;
    private static final int MALFORMED = 2;
    private static final int OVERSIZE = 3;

    private final Row tape;
    private final Row stream;
    private final Way[] ways;
    private int most;

    public FramingTrio() {
        tape = new Row(MOST_PAYLOAD);
        stream = new Row(MOST_WRITTEN);
        ways = new Way[] {new GroupedWay(), new EscapedWay(), new CheckedWay()};
        most = MOST_PAYLOAD;
    }

    public boolean feed(int a, int b, int c, int d, int e) {
        if (tape.size > MOST_PAYLOAD - BYTES_PER_FEED) {
            return false;
        }
        appendToTape(a);
        appendToTape(b);
        appendToTape(c);
        appendToTape(d);
        appendToTape(e);
        return true;
    }

    public boolean end(int n) {
        if (n < 0 || n > tape.size) {
            return false;
        }
        tape.cutTo(n);
        return true;
    }

    public boolean limit(int n) {
        if (n < 1 || n > MOST_PAYLOAD) {
            return false;
        }
        most = n;
        return true;
    }

    public int tell(int way) {
        Way chosen = wayOf(way);
        boolean done = chosen != null && mayTell(chosen) && writeFrame(chosen);
        tape.cutTo(0);
        return done ? stream.size : NONE;
    }

    public int written() {
        return stream.size;
    }

    public int writtenAt(int i) {
        return stream.byteAt(i);
    }

    public boolean spoil(int i, int mask) {
        return stream.turn(i, mask & LOW_BYTE);
    }

    public int come(int way, int b) {
        Way chosen = wayOf(way);
        return chosen == null ? NONE : chosen.take(b & LOW_BYTE, most);
    }

    public int all(int way) {
        Way chosen = wayOf(way);
        return chosen == null ? NONE : drain(stream, chosen);
    }

    public int raw(int way) {
        Way chosen = wayOf(way);
        if (chosen == null) {
            tape.cutTo(0);
            return NONE;
        }
        return drain(tape, chosen);
    }

    public int latest(int way) {
        Way chosen = wayOf(way);
        return chosen == null ? NONE : chosen.keptSize();
    }

    public int latestAt(int way, int i) {
        Way chosen = wayOf(way);
        return chosen == null ? NONE : chosen.kept.byteAt(i);
    }

    public int count(int way, int what) {
        Way chosen = wayOf(way);
        return chosen == null ? NONE : chosen.tally(what);
    }

    private Way wayOf(int way) {
        return way >= 0 && way < ways.length ? ways[way] : null;
    }

    private void appendToTape(int number) {
        for (int shift = 24; shift >= 0; shift -= 8) {
            tape.put((number >>> shift) & LOW_BYTE);
        }
    }

    private boolean mayTell(Way chosen) {
        return tape.size <= most && (tape.size > 0 || chosen.hasEmptyFrames);
    }

    /** A frame's length is known only once it is written, so one without room is taken back. */
    private boolean writeFrame(Way chosen) {
        int before = stream.size;
        chosen.frame(tape, stream);
        boolean fits = !stream.spilt;
        if (!fits) {
            stream.cutTo(before);
        }
        return fits;
    }

    private int drain(Row from, Way chosen) {
        int good = 0;
        int length = from.size;
        for (int i = 0; i < length; i++) {
            if (chosen.take(from.byteAt(i), most) == GOOD) {
                good++;
            }
        }
        from.cutTo(0);
        return good;
    }

    /** Bytes (0 .. 255) in a room that never grows; what finds no room is only noted as spilt. */
    private static final class Row {
        private final int[] bytes;
        private int size;
        private boolean spilt;

        Row(int room) {
            bytes = new int[Math.max(room, 0)];
            size = 0;
            spilt = false;
        }

        void put(int b) {
            if (size >= 0 && size < bytes.length) {
                bytes[size] = b;
                size++;
            } else {
                spilt = true;
            }
        }

        int byteAt(int i) {
            return holds(i) ? bytes[i] : NONE;
        }

        boolean turn(int i, int mask) {
            if (!holds(i)) {
                return false;
            }
            bytes[i] ^= mask;
            return true;
        }

        void cutTo(int n) {
            if (n >= 0 && n <= size) {
                size = n;
                spilt = false;
            }
        }

        private boolean holds(int i) {
            return i >= 0 && i < size && i < bytes.length;
        }
    }

    /**
     * One way to tell frames, and its reader. A chunk may be far longer than any payload and must
     * still be judged as a whole, so it is decoded as it comes instead of being stored.
     */
    private abstract static class Way {
        final int mark;
        final boolean hasEmptyFrames;
        Row payload;
        Row kept;
        boolean broken;
        private boolean begun;
        private boolean hasKept;
        private final int[] tallies;

        Way(int mark, boolean hasEmptyFrames) {
            this.mark = mark;
            this.hasEmptyFrames = hasEmptyFrames;
            payload = new Row(MOST_PAYLOAD);
            kept = new Row(MOST_PAYLOAD);
            broken = false;
            begun = false;
            hasKept = false;
            tallies = new int[OVERSIZE + 1];
        }

        abstract void frame(Row from, Row to);

        /** Takes a byte that is no mark, of a chunk that is not broken so far. */
        abstract void decode(int b);

        /** Whether the chunk, not broken so far, may end here. */
        abstract boolean isWhole();

        abstract void forgetChunk();

        int take(int b, int most) {
            if (b == mark) {
                return finishChunk(most);
            }
            begun = true;
            if (!broken) {
                decode(b);
            }
            return NOTHING;
        }

        int keptSize() {
            return hasKept ? kept.size : NONE;
        }

        int tally(int verdict) {
            return verdict >= GOOD && verdict <= OVERSIZE ? tallies[verdict] : NONE;
        }

        private int finishChunk(int most) {
            int verdict = judge(most);
            if (verdict >= GOOD && verdict <= OVERSIZE) {
                tallies[verdict]++;
            }
            if (verdict == GOOD) {
                keepPayload();
            }
            payload.cutTo(0);
            broken = false;
            begun = false;
            forgetChunk();
            return verdict;
        }

        private int judge(int most) {
            if (!begun && !hasEmptyFrames) {
                return NOTHING;
            }
            if (broken || !isWhole()) {
                return MALFORMED;
            }
            return payload.spilt || payload.size > most ? OVERSIZE : GOOD;
        }

        /** The two rows change places, so that reading makes no new ones. */
        private void keepPayload() {
            Row spare = kept;
            kept = payload;
            payload = spare;
            hasKept = true;
        }
    }

    /** Way 0: groups that tell their own length, so that no 0 is left but the mark. */
    private static final class GroupedWay extends Way {
        private static final int MARK = 0;
        private static final int FULL_GROUP = 254;

        /** What the latest group of the chunk told; 0 before the first. */
        private int header;
        private int missing;

        GroupedWay() {
            super(MARK, true);
            header = 0;
            missing = 0;
        }

        void frame(Row from, Row to) {
            int length = from.size;
            int start = 0;
            boolean behindFull = false;
            for (int i = 0; i < length; i++) {
                if (from.byteAt(i) == 0) {
                    writeGroup(from, start, i, to);
                    start = i + 1;
                    behindFull = false;
                } else if (i + 1 - start == FULL_GROUP) {
                    writeGroup(from, start, i + 1, to);
                    start = i + 1;
                    behindFull = true;
                }
            }
            if (start < length || !behindFull) {
                writeGroup(from, start, length, to);
            }
            to.put(MARK);
        }

        private static void writeGroup(Row from, int start, int stop, Row to) {
            to.put(stop - start + 1);
            for (int i = start; i < stop; i++) {
                to.put(from.byteAt(i));
            }
        }

        void decode(int b) {
            if (missing > 0) {
                payload.put(b);
                missing--;
            } else {
                beginGroup(b);
            }
        }

        /** Only now is it sure that the group ahead was not the last, and has its 0. */
        private void beginGroup(int b) {
            if (header != 0 && header != FULL_GROUP + 1) {
                payload.put(0);
            }
            header = b;
            missing = b - 1;
        }

        boolean isWhole() {
            return header != 0 && missing == 0;
        }

        void forgetChunk() {
            header = 0;
            missing = 0;
        }
    }

    /** Way 1: the mark and the escape byte are each told as a pair. */
    private static final class EscapedWay extends Way {
        private static final int MARK = 192;
        private static final int ESCAPE = 219;
        private static final int ESCAPED_MARK = 220;
        private static final int ESCAPED_ESCAPE = 221;

        private boolean escaping;

        EscapedWay() {
            super(MARK, false);
            escaping = false;
        }

        void frame(Row from, Row to) {
            int length = from.size;
            for (int i = 0; i < length; i++) {
                writeByte(from.byteAt(i), to);
            }
            to.put(MARK);
        }

        private static void writeByte(int b, Row to) {
            if (b == MARK) {
                to.put(ESCAPE);
                to.put(ESCAPED_MARK);
            } else if (b == ESCAPE) {
                to.put(ESCAPE);
                to.put(ESCAPED_ESCAPE);
            } else {
                to.put(b);
            }
        }

        void decode(int b) {
            if (escaping) {
                escaping = false;
                decodeEscaped(b);
            } else if (b == ESCAPE) {
                escaping = true;
            } else {
                payload.put(b);
            }
        }

        private void decodeEscaped(int b) {
            if (b == ESCAPED_MARK) {
                payload.put(MARK);
            } else if (b == ESCAPED_ESCAPE) {
                payload.put(ESCAPE);
            } else {
                broken = true;
            }
        }

        boolean isWhole() {
            return !escaping;
        }

        void forgetChunk() {
            escaping = false;
        }
    }

    /** Way 2: a check of two bytes stands behind the payload, and marks are turned inside. */
    private static final class CheckedWay extends Way {
        private static final int MARK = 126;
        private static final int ESCAPE = 125;
        private static final int TURN = 32;
        private static final int CHECK_START = 65535;
        private static final int CHECK_FACTOR = 0x8408;
        private static final int CHECK_BYTES = 2;

        private boolean escaping;
        private int check;
        /** The last two bytes are held back: only the mark tells whether they are the check. */
        private int held;
        private int older;
        private int newer;

        CheckedWay() {
            super(MARK, false);
            escaping = false;
            check = CHECK_START;
            held = 0;
            older = 0;
            newer = 0;
        }

        void frame(Row from, Row to) {
            int length = from.size;
            int sum = CHECK_START;
            for (int i = 0; i < length; i++) {
                int b = from.byteAt(i);
                sum = addToCheck(sum, b);
                writeByte(b, to);
            }
            int last = finishedCheck(sum);
            writeByte(last & LOW_BYTE, to);
            writeByte(last >>> 8, to);
            to.put(MARK);
        }

        private static void writeByte(int b, Row to) {
            if (b == ESCAPE || b == MARK) {
                to.put(ESCAPE);
                to.put(b ^ TURN);
            } else {
                to.put(b);
            }
        }

        private static int addToCheck(int sum, int b) {
            int rest = sum ^ b;
            for (int bit = 0; bit < 8; bit++) {
                rest = (rest & 1) != 0 ? (rest >>> 1) ^ CHECK_FACTOR : rest >>> 1;
            }
            return rest;
        }

        private static int finishedCheck(int sum) {
            return sum ^ CHECK_START;
        }

        void decode(int b) {
            if (escaping) {
                escaping = false;
                if (b == ESCAPE) {
                    broken = true;
                } else {
                    hold(b ^ TURN);
                }
            } else if (b == ESCAPE) {
                escaping = true;
            } else {
                hold(b);
            }
        }

        private void hold(int b) {
            if (held == CHECK_BYTES) {
                payload.put(older);
                check = addToCheck(check, older);
            } else {
                held++;
            }
            older = newer;
            newer = b;
        }

        boolean isWhole() {
            return !escaping && payload.size > 0 && finishedCheck(check) == (older | (newer << 8));
        }

        void forgetChunk() {
            escaping = false;
            check = CHECK_START;
            held = 0;
            older = 0;
            newer = 0;
        }
    }
}
