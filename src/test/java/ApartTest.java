/**
 * "All memory is the class's own.": of two objects used in turn, neither answers for the other; and
 * neither do the readers of one object.
 */
public final class ApartTest extends FramingTest {
    /** The payload 1 2 3 as a frame of each way. */
    private static final byte[][] FRAMES = {
        bytes(4, 1, 2, 3, 0), bytes(1, 2, 3, 192), join(bytes(1, 2, 3), toldCheck(bytes(1, 2, 3)), bytes(126))
    };

    public static void main(String[] args) {
        about("two objects in turn:");
        tapes();
        limits();
        streams();
        streamsFull();
        for (int way = 0; way < 3; way++) {
            chunks(way);
            payloads(way);
            tallies(way);
            broken(way);
            oversize(way);
        }
        escapes();
        allAndRaw();
        madeLater();
        theSameCallsInTurn();
        about("readers of one object in turn:");
        readersByteByByte();
        readersOfWhatIsSpoilt();
        finish();
    }

    private static void tapes() {
        CountedTrio x = new CountedTrio();
        CountedTrio y = new CountedTrio();
        due("x feed", x.feed(0x01020304, 0, 0, 0, 0), true);
        due("y has no tape", y.end(1), false);
        due("y feed", y.feed(0x05060708, 0, 0, 0, 0), true);
        due("x has 20", x.end(21), false);
        due("x end", x.end(2), true);
        due("y has 20 still", y.end(20), true);
        due("y end", y.end(3), true);
        due("x has 2", x.end(3), false);
        due("x tell", x.tell(1), 3);
        due("y has 3 still", y.end(3), true);
        due("y tell", y.tell(1), 4);
        row("x written", written(x), bytes(1, 2, 192));
        row("y written", written(y), bytes(5, 6, 7, 192));
        for (int i = 0; i < 20; i++) {
            due("x feed " + i, x.feed(i, i, i, i, i), true);
        }
        due("x is full", x.feed(1, 2, 3, 4, 5), false);
        due("y is not", y.feed(1, 2, 3, 4, 5), true);
        due("y raw", y.raw(1), 0);
        due("x is full still", x.end(400), true);
        due("y is empty", y.end(1), false);
        due("x raw of no such way", x.raw(3), NONE);
        y.feed(1, 2, 3, 4, 5);
        due("x tell of no such way", x.tell(3), NONE);
        due("y has its tape", y.end(20), true);
    }

    private static void limits() {
        CountedTrio x = new CountedTrio();
        CountedTrio y = new CountedTrio();
        due("x limit", x.limit(2), true);
        due("y tells 3", layAndTell(y, 1, bytes(1, 2, 3)), 4);
        due("x tells 3", layAndTell(x, 1, bytes(1, 2, 3)), NONE);
        due("y limit", y.limit(5), true);
        due("x tells 3 still", layAndTell(x, 1, bytes(1, 2, 3)), NONE);
        due("x tells 2", layAndTell(x, 1, bytes(1, 2)), 3);
        due("x limit", x.limit(6), true);
        due("y tells 6", layAndTell(y, 1, bytes(1, 2, 3, 4, 5, 6)), NONE);
        due("y is refused a limit", y.limit(0), false);
        due("x tells 6", layAndTell(x, 1, bytes(1, 2, 3, 4, 5, 6)), 10);
        for (int way = 0; way < 3; way++) {
            x.limit(2);
            y.limit(3);
            due("x reads 3, way " + way, send(x, way, FRAMES[way]), 3);
            due("y reads 3, way " + way, send(y, way, FRAMES[way]), 1);
        }
    }

    private static void streams() {
        CountedTrio x = new CountedTrio();
        CountedTrio y = new CountedTrio();
        due("x tell", layAndTell(x, 1, bytes(1, 2)), 3);
        due("y written", y.written(), 0);
        due("y writtenAt", y.writtenAt(0), NONE);
        due("y spoil", y.spoil(0, 255), false);
        due("y tell", layAndTell(y, 0, bytes(9)), 3);
        due("x spoil", x.spoil(0, 4), true);
        row("y written", written(y), bytes(2, 9, 0));
        due("y spoil", y.spoil(1, 3), true);
        row("x written", written(x), bytes(5, 2, 192));
        row("y written", written(y), bytes(2, 10, 0));
        due("x all", x.all(1), 1);
        due("y written still", y.written(), 3);
        due("y all", y.all(0), 1);
        due("x tell again", layAndTell(x, 1, bytes(7)), 2);
        due("y written no more", y.written(), 0);
        due("y all of no such way", y.all(3), NONE);
        row("x written", written(x), bytes(7, 192));
    }

    private static void streamsFull() {
        CountedTrio x = new CountedTrio();
        CountedTrio y = new CountedTrio();
        for (int i = 1; i <= 4; i++) {
            due("x tell " + i, layAndTell(x, 1, filled(400, 7)), 401 * i);
            due("y tell " + i, layAndTell(y, 1, filled(100, 8)), 101 * i);
        }
        due("x has no room", layAndTell(x, 1, filled(400, 7)), NONE);
        due("y has room", layAndTell(y, 1, filled(400, 8)), 805);
        due("x written", x.written(), 1604);
        due("x writtenAt", x.writtenAt(804), 7);
        due("y writtenAt", y.writtenAt(803), 8);
    }

    /** A chunk stands open in both, cut at every place. */
    private static void chunks(int way) {
        byte[] frame = FRAMES[way];
        for (int cut = 0; cut < frame.length; cut++) {
            for (int otherCut = 0; otherCut < frame.length; otherCut++) {
                String at = "way " + way + " cut at " + cut + " and " + otherCut;
                CountedTrio x = new CountedTrio();
                CountedTrio y = new CountedTrio();
                comeFromTo(x, way, frame, 0, cut);
                comeFromTo(y, way, frame, 0, otherCut);
                due("x " + at, comeFromTo(x, way, frame, cut, frame.length), 1);
                due("y " + at, comeFromTo(y, way, frame, otherCut, frame.length), 1);
                row("x " + at, latest(x, way), bytes(1, 2, 3));
                row("y " + at, latest(y, way), bytes(1, 2, 3));
            }
        }
        CountedTrio x = new CountedTrio();
        CountedTrio y = new CountedTrio();
        comeFromTo(x, way, frame, 0, 2);
        due("an empty chunk of y beside an open one of x, way " + way, y.come(way, MARKS[way]), way == 0 ? 2 : 0);
        due("x goes on, way " + way, comeFromTo(x, way, frame, 2, frame.length), 1);
        due("y has no good one, way " + way, y.latest(way), NONE);
    }

    private static int comeFromTo(CountedTrio x, int way, byte[] frame, int from, int to) {
        int verdict = 0;
        for (int i = from; i < to; i++) {
            verdict = x.come(way, frame[i]);
        }
        return verdict;
    }

    private static void payloads(int way) {
        CountedTrio x = new CountedTrio();
        CountedTrio y = new CountedTrio();
        due("x good, way " + way, send(x, way, FRAMES[way]), 1);
        due("y latest, way " + way, y.latest(way), NONE);
        due("y latestAt, way " + way, y.latestAt(way, 0), NONE);
        layAndTell(y, way, bytes(8, 9));
        due("y good, way " + way, y.all(way), 1);
        row("x payload, way " + way, latest(x, way), bytes(1, 2, 3));
        row("y payload, way " + way, latest(y, way), bytes(8, 9));
        layAndTell(x, way, bytes(4));
        due("x good again, way " + way, x.all(way), 1);
        row("y payload still, way " + way, latest(y, way), bytes(8, 9));
        row("x payload anew, way " + way, latest(x, way), bytes(4));
    }

    private static void tallies(int way) {
        CountedTrio x = new CountedTrio();
        CountedTrio y = new CountedTrio();
        byte[] malformed = join(way == 0 ? bytes(9) : way == 1 ? bytes(219) : bytes(125), bytes(MARKS[way]));
        x.limit(2);
        due("x oversize, way " + way, send(x, way, FRAMES[way]), 3);
        due("y malformed, way " + way, send(y, way, malformed), 2);
        due("y good, way " + way, send(y, way, FRAMES[way]), 1);
        due("x oversize again, way " + way, send(x, way, FRAMES[way]), 3);
        counts("x", x, way, 0, 0, 2);
        counts("y", y, way, 1, 1, 0);
    }

    private static void counts(String name, CountedTrio x, int way, int good, int malformed, int oversize) {
        due(name + " good ones, way " + way, x.count(way, 1), good);
        due(name + " malformed ones, way " + way, x.count(way, 2), malformed);
        due(name + " oversize ones, way " + way, x.count(way, 3), oversize);
    }

    /** What is spoilt in one is not spoilt in the other. */
    private static void broken(int way) {
        CountedTrio x = new CountedTrio();
        CountedTrio y = new CountedTrio();
        byte[] spoilt = way == 0 ? bytes(3, 7) : way == 1 ? bytes(219, 5) : bytes(125, 125);
        send(x, way, spoilt);
        due("y beside a broken chunk, way " + way, send(y, way, FRAMES[way]), 1);
        due("x is broken still, way " + way, x.come(way, MARKS[way]), 2);
        due("y behind it, way " + way, send(y, way, FRAMES[way]), 1);
    }

    /** A chunk without room in one takes no room from the other. */
    private static void oversize(int way) {
        CountedTrio x = new CountedTrio();
        CountedTrio y = new CountedTrio();
        byte[] payload = filled(401, 7);
        byte[] body = way == 0 ? filled(402, 1) : way == 1 ? payload : join(payload, toldCheck(payload));
        pour(x, way, body);
        due("y beside an oversize chunk, way " + way, send(y, way, FRAMES[way]), 1);
        due("x is oversize still, way " + way, x.come(way, MARKS[way]), 3);
        row("y payload, way " + way, latest(y, way), bytes(1, 2, 3));
    }

    /** An escape byte that came to one turns nothing in the other. */
    private static void escapes() {
        CountedTrio x = new CountedTrio();
        CountedTrio y = new CountedTrio();
        x.come(1, 219);
        due("y 220", send(y, 1, bytes(220, 192)), 1);
        row("y is not escaped", latest(y, 1), bytes(220));
        due("x 220", send(x, 1, bytes(220, 192)), 1);
        row("x is escaped", latest(x, 1), bytes(192));
        x.come(2, 125);
        due("y 1 2 3", send(y, 2, FRAMES[2]), 1);
        due("x turned 1 2 3", send(x, 2, join(bytes(1 ^ 32), bytes(2, 3), toldCheck(bytes(1, 2, 3)), bytes(126))), 1);
        row("y payload", latest(y, 2), bytes(1, 2, 3));
        row("x payload", latest(x, 2), bytes(1, 2, 3));
    }

    private static void allAndRaw() {
        CountedTrio x = new CountedTrio();
        CountedTrio y = new CountedTrio();
        layAndTell(x, 1, bytes(1));
        layAndTell(x, 1, bytes(2));
        layAndTell(y, 1, bytes(3));
        lay(x, bytes(4, 192));
        lay(y, bytes(5, 192, 6, 192, 7, 192));
        due("x all", x.all(1), 2);
        due("y raw", y.raw(1), 3);
        due("x raw", x.raw(1), 1);
        due("y all", y.all(1), 1);
        row("x payload", latest(x, 1), bytes(4));
        row("y payload", latest(y, 1), bytes(3));
        counts("x", x, 1, 3, 0, 0);
        counts("y", y, 1, 4, 0, 0);
    }

    /** Nothing of the first is in one made later, and making it takes nothing from the first. */
    private static void madeLater() {
        CountedTrio x = new CountedTrio();
        x.limit(3);
        for (int way = 0; way < 3; way++) {
            send(x, way, FRAMES[way]);
            x.come(way, 2);
        }
        layAndTell(x, 1, bytes(1, 2, 3));
        lay(x, bytes(7, 8));
        CountedTrio y = new CountedTrio();
        due("y written", y.written(), 0);
        due("y tape", y.end(1), false);
        for (int way = 0; way < 3; way++) {
            due("y latest " + way, y.latest(way), NONE);
            counts("y", y, way, 0, 0, 0);
            due("y has no open chunk " + way, y.come(way, MARKS[way]), way == 0 ? 2 : 0);
        }
        due("y limit", layAndTell(y, 1, filled(400, 7)), 401);
        row("x written", written(x), bytes(1, 2, 3, 192));
        due("x tape", x.end(3), false);
        due("x tape", x.end(2), true);
        for (int way = 0; way < 3; way++) {
            row("x payload " + way, latest(x, way), bytes(1, 2, 3));
            counts("x", x, way, 1, 0, 0);
        }
        due("x limit", layAndTell(x, 1, filled(4, 7)), NONE);
        due("x has its open chunk", x.come(1, 192), 1);
        row("x has its open chunk", latest(x, 1), bytes(2));
    }

    /** Each call on both, one behind the other: the same calls, the same answers. */
    private static void theSameCallsInTurn() {
        CountedTrio[] both = {new CountedTrio(), new CountedTrio()};
        for (int round = 1; round <= 3; round++) {
            for (int way = 0; way < 3; way++) {
                for (CountedTrio each : both) {
                    due("feed", each.feed(0x01020300, 0, 0, 0, 0), true);
                }
                for (CountedTrio each : both) {
                    due("end", each.end(3), true);
                }
                for (CountedTrio each : both) {
                    due("tell " + way, each.tell(way), FRAMES[way].length);
                }
                for (CountedTrio each : both) {
                    due("spoil", each.spoil(0, 0), true);
                }
                for (CountedTrio each : both) {
                    due("all " + way, each.all(way), 1);
                }
                for (CountedTrio each : both) {
                    due("count " + way, each.count(way, 1), round);
                }
                for (CountedTrio each : both) {
                    row("latest " + way, latest(each, way), bytes(1, 2, 3));
                }
            }
        }
    }

    /** The three frames come a byte each in turn. */
    private static void readersByteByByte() {
        CountedTrio x = new CountedTrio();
        int good = 0;
        for (int i = 0; i < FRAMES[2].length; i++) {
            for (int way = 0; way < 3; way++) {
                if (i < FRAMES[way].length) {
                    good += x.come(way, FRAMES[way][i]);
                }
            }
        }
        due("good ones", good, 3);
        for (int way = 0; way < 3; way++) {
            row("payload " + way, latest(x, way), bytes(1, 2, 3));
            counts("the reader's", x, way, 1, 0, 0);
        }
    }

    private static void readersOfWhatIsSpoilt() {
        byte[][] spoilt = {bytes(3, 7), bytes(219, 5), bytes(125, 125)};
        for (int way = 0; way < 3; way++) {
            CountedTrio x = new CountedTrio();
            send(x, way, spoilt[way]);
            for (int other = 0; other < 3; other++) {
                if (other != way) {
                    due("way " + other + " beside what is spoilt in " + way, send(x, other, FRAMES[other]), 1);
                    due("way " + way + " has none of it", x.latest(way), NONE);
                }
            }
            due("way " + way + " is spoilt still", x.come(way, MARKS[way]), 2);
            for (int other = 0; other < 3; other++) {
                counts("beside what is spoilt in " + way, x, other, other == way ? 0 : 1, other == way ? 1 : 0, 0);
            }
        }
    }
}
