import java.util.Arrays;

/** Each sentence of the document that names a boundary: at the boundary, and on either side of it. */
public final class BoundaryTest extends FramingTest {
    private static final int[] ODD_NUMBERS = {-1, Integer.MIN_VALUE, Integer.MIN_VALUE + 1, Integer.MAX_VALUE};

    public static void main(String[] args) {
        payloadHasAtMostLimitBytes();
        groupEndsAt254();
        emptyGroupBehind254IsNotThere();
        noFramesOfNoBytes();
        emptyChunkIsNothing();
        emptyChunkIsNoGroups();
        zeroBehindEachGroupButLastAndFull();
        groupHasAsManyAsItSays();
        escape219OnlyWith220Or221();
        escape125OnlyWithoutAnother125();
        atLeastThreeBytes();
        lastTwoAreTheCheck();
        aboveTheLimitIsOversize();
        malformedAboveTheLimitIsMalformed();
        chunksFarAboveTheLimit();
        spoiltHarmsNothingBehindTheMark();
        newObjectIsEmpty();
        feedBeyond400();
        endBeyondTapeOrBelow0();
        limitOfAnotherNumber();
        tellForNoSuchWay();
        tellAboveTheLimit();
        tellOfNoBytes();
        tellBeyond2000();
        writtenFromNothingTo2000();
        writtenAtEnds();
        spoilByLowestEightBits();
        spoilWhereThereIsNone();
        comeByLowestEightBits();
        comeAnswersNoughtAtNoMark();
        comeForNoSuchWay();
        allIsWrittenNoMore();
        allForNoSuchWay();
        rawEmptiesTheTape();
        rawForNoSuchWay();
        latestBeforeAny();
        latestForNoSuchWay();
        latestAtEnds();
        countOfOthers();
        finish();
    }

    private static void payloadHasAtMostLimitBytes() {
        about("Terms: \"A PAYLOAD has at most LIMIT bytes (1 .. 400, 400 at first).\"");
        for (int way = 0; way < 3; way++) {
            for (int length = 399; length <= 401; length++) {
                tellsByLength(new CountedTrio(), way, length, 400);
                readsByLength(new CountedTrio(), way, length, 400);
            }
            for (int limit : new int[] {1, 2, 200, 253, 254, 255, 399, 400}) {
                for (int length = limit - 1; length <= limit + 1; length++) {
                    tellsByLength(limited(limit), way, length, limit);
                    readsByLength(limited(limit), way, length, limit);
                }
            }
        }
    }

    private static void groupEndsAt254() {
        about("Terms, way 0: \"or 254 of them: it ends there, and a 0 behind it is another group's\"");
        byte[] x252 = counting(252);
        byte[] x253 = counting(253);
        byte[] x254 = counting(254);
        tells(0, join(x252, bytes(0, 5)), join(bytes(253), x252, bytes(2, 5, 0)));
        tells(0, join(x253, bytes(0, 5)), join(bytes(254), x253, bytes(2, 5, 0)));
        tells(0, join(x254, bytes(0, 5)), join(bytes(255), x254, bytes(1, 2, 5, 0)));
        tells(0, join(x254, bytes(9, 0, 5)), join(bytes(255), x254, bytes(2, 9, 2, 5, 0)));
        tells(0, join(x252, bytes(9)), join(bytes(254), x252, bytes(9, 0)));
        tells(0, join(x253, bytes(9)), join(bytes(255), x253, bytes(9, 0)));
        tells(0, join(x254, bytes(9)), join(bytes(255), x254, bytes(2, 9, 0)));
        tells(0, join(x254, bytes(0, 0, 5)), join(bytes(255), x254, bytes(1, 1, 2, 5, 0)));
        tells(0, join(bytes(0), x253, bytes(0, 5)), join(bytes(1, 254), x253, bytes(2, 5, 0)));
        tells(0, join(bytes(0), x254, bytes(0, 5)), join(bytes(1, 255), x254, bytes(1, 2, 5, 0)));
        tells(0, join(bytes(5, 0), x254, bytes(9)), join(bytes(2, 5, 255), x254, bytes(2, 9, 0)));
        byte[] x146 = counting(146);
        tells(0, join(x254, x146), join(bytes(255), x254, bytes(147), x146, bytes(0)));
        tells(0, join(x146, x254), join(bytes(255), x146, counting(108), bytes(147),
                Arrays.copyOfRange(x254, 108, 254), bytes(0)));
    }

    private static void emptyGroupBehind254IsNotThere() {
        about("Terms, way 0: \"when that would be an empty one behind a group of 254, it is not there\"");
        byte[] x253 = counting(253);
        byte[] x254 = counting(254);
        tells(0, bytes(), bytes(1, 0));
        tells(0, bytes(0), bytes(1, 1, 0));
        tells(0, bytes(5), bytes(2, 5, 0));
        tells(0, x253, join(bytes(254), x253, bytes(0)));
        tells(0, x254, join(bytes(255), x254, bytes(0)));
        tells(0, counting(255), join(bytes(255), x254, bytes(2, 255, 0)));
        tells(0, join(x253, bytes(0)), join(bytes(254), x253, bytes(1, 0)));
        tells(0, join(x254, bytes(0)), join(bytes(255), x254, bytes(1, 1, 0)));
        tells(0, join(x254, bytes(0, 0)), join(bytes(255), x254, bytes(1, 1, 1, 0)));
        tells(0, join(bytes(0), x253), join(bytes(1, 254), x253, bytes(0)));
        tells(0, join(bytes(0), x254), join(bytes(1, 255), x254, bytes(0)));
        tells(0, join(bytes(0), x254, bytes(9)), join(bytes(1, 255), x254, bytes(2, 9, 0)));
        tells(0, join(filled(146, 0), x254), join(filled(146, 1), bytes(255), x254, bytes(0)));
        tells(0, join(x254, filled(146, 0)), join(bytes(255), x254, filled(147, 1), bytes(0)));
    }

    private static void noFramesOfNoBytes() {
        about("Terms: \"In ways 1 and 2 there are no frames of no bytes.\"");
        for (int way = 1; way < 3; way++) {
            CountedTrio x = new CountedTrio();
            refusesToTell(x, way, bytes());
            due("one byte " + way, layAndTell(x, way, bytes(5)), frameOf(way, bytes(5)).length);
            refusesToTell(x, way, bytes());
            tells(way, bytes(5), frameOf(way, bytes(5)));
            tells(way, bytes(5, 6), frameOf(way, bytes(5, 6)));
        }
        tells(0, bytes(), bytes(1, 0));
    }

    private static void emptyChunkIsNothing() {
        about("Terms, reading: \"ways 1, 2: an empty chunk is nothing\"");
        for (int way = 1; way < 3; way++) {
            CountedTrio x = new CountedTrio();
            due("first mark " + way, x.come(way, MARKS[way]), 0);
            due("second mark " + way, x.come(way, MARKS[way]), 0);
            lay(x, filled(400, MARKS[way]));
            due("400 marks by the tape " + way, x.raw(way), 0);
            counts(x, way, 0, 0, 0);
            due("none kept " + way, x.latest(way), NONE);
            due("good " + way, send(x, way, frameOf(way, bytes(5))), 1);
            due("mark behind good " + way, x.come(way, MARKS[way]), 0);
            row("still kept " + way, latest(x, way), bytes(5));
            due("malformed " + way, send(x, way, bytes(escape(way), MARKS[way])), 2);
            due("mark behind malformed " + way, x.come(way, MARKS[way]), 0);
            x.limit(1);
            due("oversize " + way, send(x, way, frameOf(way, bytes(5, 6))), 3);
            due("mark behind oversize " + way, x.come(way, MARKS[way]), 0);
            counts(x, way, 1, 1, 1);
        }
        reads(1, bytes(5, 192), 1, bytes(5));
        reads(2, bytes(5, 126), 2, null);
    }

    private static void emptyChunkIsNoGroups() {
        about("Terms, reading, way 0: \"(an empty chunk is none)\"");
        reads(0, bytes(0), 2, null);
        reads(0, bytes(1, 0), 1, bytes());
        reads(0, bytes(1, 1, 0), 1, bytes(0));
        CountedTrio x = new CountedTrio();
        due("first mark", x.come(0, 0), 2);
        due("second mark", x.come(0, 0), 2);
        due("good", send(x, 0, bytes(2, 5, 0)), 1);
        due("mark behind good", x.come(0, 0), 2);
        row("still kept", latest(x, 0), bytes(5));
        lay(x, filled(400, 0));
        due("400 marks by the tape", x.raw(0), 0);
        counts(x, 0, 1, 403, 0);
    }

    private static void zeroBehindEachGroupButLastAndFull() {
        about("Terms, reading, way 0: \"with a 0 behind each but the last and those of 254 bytes (255 told)\"");
        byte[] x252 = counting(252);
        byte[] x253 = counting(253);
        byte[] x254 = counting(254);
        reads(0, bytes(1, 0), 1, bytes());
        reads(0, bytes(1, 1, 0), 1, bytes(0));
        reads(0, bytes(1, 1, 1, 0), 1, bytes(0, 0));
        reads(0, bytes(2, 5, 0), 1, bytes(5));
        reads(0, bytes(2, 5, 2, 6, 0), 1, bytes(5, 0, 6));
        reads(0, bytes(2, 5, 1, 2, 6, 0), 1, bytes(5, 0, 0, 6));
        reads(0, join(bytes(253), x252, bytes(2, 5, 0)), 1, join(x252, bytes(0, 5)));
        reads(0, join(bytes(254), x253, bytes(2, 5, 0)), 1, join(x253, bytes(0, 5)));
        reads(0, join(bytes(255), x254, bytes(2, 5, 0)), 1, join(x254, bytes(5)));
        reads(0, join(bytes(253), x252, bytes(1, 0)), 1, join(x252, bytes(0)));
        reads(0, join(bytes(254), x253, bytes(1, 0)), 1, join(x253, bytes(0)));
        reads(0, join(bytes(255), x254, bytes(1, 0)), 1, x254);
        reads(0, join(bytes(255), x254, bytes(1, 1, 0)), 1, join(x254, bytes(0)));
        reads(0, join(bytes(255), x254, bytes(1, 2, 5, 0)), 1, join(x254, bytes(0, 5)));
        reads(0, join(bytes(254), x253, bytes(0)), 1, x253);
        reads(0, join(bytes(255), x254, bytes(0)), 1, x254);
        reads(0, join(bytes(1, 254), x253, bytes(0)), 1, join(bytes(0), x253));
        reads(0, join(bytes(1, 255), x254, bytes(0)), 1, join(bytes(0), x254));
        reads(0, join(bytes(1, 255), x254, bytes(1, 0)), 1, join(bytes(0), x254));
    }

    private static void groupHasAsManyAsItSays() {
        about("Terms, reading, way 0: \"a byte that is not 0, and as many less one as it says\"");
        for (int told : new int[] {2, 3, 100, 254, 255}) {
            reads(0, join(bytes(told), counting(told - 2), bytes(0)), 2, null);
            reads(0, join(bytes(told), counting(told - 1), bytes(0)), 1, counting(told - 1));
            reads(0, join(bytes(told), counting(told - 1), bytes(2, 0)), 2, null);
            reads(0, join(bytes(1, told), counting(told - 2), bytes(0)), 2, null);
            reads(0, join(bytes(1, told), counting(told - 1), bytes(0)), 1, join(bytes(0), counting(told - 1)));
        }
    }

    private static void escape219OnlyWith220Or221() {
        about("Terms, reading, way 1: \"219 only with 220 or 221 behind it\"");
        for (int b = 0; b < 256; b++) {
            if (b == 192) {
                reads(1, bytes(219, b), 2, null);
            } else {
                boolean fine = b == 220 || b == 221;
                byte[] payload = fine ? bytes(b == 220 ? 192 : 219) : null;
                reads(1, bytes(219, b, 192), fine ? 1 : 2, payload);
                reads(1, bytes(7, 219, b, 7, 192), fine ? 1 : 2, fine ? join(bytes(7), payload, bytes(7)) : null);
                reads(1, bytes(b, 192), b == 219 ? 2 : 1, b == 219 ? null : bytes(b));
            }
        }
        reads(1, bytes(219, 220, 220, 221, 192), 1, bytes(192, 220, 221));
        reads(1, bytes(219, 221, 220, 221, 192), 1, bytes(219, 220, 221));
        reads(1, bytes(219, 221, 219, 192), 2, null);
        reads(1, bytes(219, 219, 220, 192), 2, null);
        reads(1, bytes(219, 5, 219, 220, 192), 2, null);
        CountedTrio x = new CountedTrio();
        due("219 ahead of a mark", send(x, 1, bytes(219, 192)), 2);
        due("220 behind that mark", send(x, 1, bytes(220, 192)), 1);
        row("220 stands for itself", latest(x, 1), bytes(220));
    }

    private static void escape125OnlyWithoutAnother125() {
        about("Terms, reading, way 2: \"125 only with a byte behind it that isn't 125\"");
        for (int b = 0; b < 256; b++) {
            byte[] behind = join(toldCheck(bytes(b ^ 32)), bytes(126));
            if (b == 126) {
                reads(2, bytes(125, b), 2, null);
            } else {
                boolean fine = b != 125;
                reads(2, join(bytes(125, b), behind), fine ? 1 : 2, fine ? bytes(b ^ 32) : null);
            }
            if (b != 125 && b != 126) {
                reads(2, join(bytes(b), toldCheck(bytes(b)), bytes(126)), 1, bytes(b));
            }
        }
        reads(2, join(bytes(125, 93, 93), toldCheck(bytes(125, 93)), bytes(126)), 1, bytes(125, 93));
        reads(2, join(bytes(125, 93, 125, 94), toldCheck(bytes(125, 126)), bytes(126)), 1, bytes(125, 126));
        byte[] check = checkOf(bytes(5));
        reads(2, bytes(5, 125, check[0] ^ 32, 125, check[1] ^ 32, 126), 1, bytes(5));
        reads(2, bytes(5, check[0], check[1], 125, 126), 2, null);
        reads(2, bytes(5, check[0], check[1], 125, 125, 126), 2, null);
        reads(2, bytes(125, 125, 5, check[0], check[1], 126), 2, null);
    }

    private static void atLeastThreeBytes() {
        about("Terms, reading, way 2: \"then at least three bytes\"");
        reads(2, bytes(126), 0, null);
        for (int b = 0; b < 256; b++) {
            if (b != 125 && b != 126) {
                reads(2, bytes(b, 126), 2, null);
                reads(2, bytes(b, b, 126), 2, null);
            }
        }
        // 0 0 is the check of no bytes; but there must be a byte ahead of it.
        reads(2, bytes(0, 0, 126), 2, null);
        reads(2, bytes(125, 32, 0, 126), 2, null);
        reads(2, bytes(125, 32, 125, 32, 126), 2, null);
        for (int length = 1; length <= 3; length++) {
            reads(2, frameOf(2, counting(length)), 1, counting(length));
        }
        CountedTrio x = new CountedTrio();
        send(x, 2, frameOf(2, bytes(5)));
        due("two bytes behind a good chunk", send(x, 2, bytes(0, 0, 126)), 2);
        due("two bytes again", send(x, 2, bytes(0, 0, 126)), 2);
    }

    private static void lastTwoAreTheCheck() {
        about("Terms, reading, way 2: \"the last two being the check of those ahead of them\"");
        byte[] nine = "123456789".getBytes();
        tells(2, nine, join(nine, bytes(0x6E, 0x90, 126)));
        reads(2, join(nine, bytes(0x6E, 0x90, 126)), 1, nine);
        reads(2, join(nine, bytes(0x90, 0x6E, 126)), 2, null);
        reads(2, join(nine, bytes(0x6E, 126)), 2, null);
        reads(2, join(nine, bytes(0x6E, 0x90, 0, 126)), 2, null);
        // The bits as they are before they are turned round.
        reads(2, join(nine, bytes(0x91, 0x6F, 126)), 2, null);
        for (int bit = 0; bit < 16; bit++) {
            byte[] lower = toldInWay2(0x6E ^ (1 << bit & 255));
            byte[] higher = toldInWay2(0x90 ^ (1 << bit >> 8));
            reads(2, join(nine, lower, higher, bytes(126)), 2, null);
        }
        boolean[] escaped = new boolean[2];
        for (int i = 0; i < 1000; i++) {
            byte[] payload = bytes(i & 63, 128 + (i >> 6));
            tells(2, payload, frameOf(2, payload));
            byte[] check = checkOf(payload);
            escaped[0] |= check[0] == 125 || check[0] == 126;
            escaped[1] |= check[1] == 125 || check[1] == 126;
        }
        due("the check's lower byte was turned", escaped[0], true);
        due("the check's higher byte was turned", escaped[1], true);
    }

    private static void aboveTheLimitIsOversize() {
        about("Terms, reading: \"with a payload above the limit, is OVERSIZE\"");
        for (int way = 0; way < 3; way++) {
            for (int limit : new int[] {1, 2, 3, 253, 254, 255, 398, 399, 400}) {
                CountedTrio x = limited(limit);
                due("at " + limit, pour(x, way, frameOf(way, counting(limit))), 1);
                due("one above " + limit, pour(x, way, frameOf(way, counting(limit + 1))), 3);
                due("two above " + limit, pour(x, way, frameOf(way, counting(limit + 2))), 3);
                counts(x, way, 1, 0, 2);
                row("the good one stays", latest(x, way), counting(limit));
            }
            // The limit of the moment of the mark counts, on either side of it.
            byte[] frame = frameOf(way, bytes(5, 6, 7));
            CountedTrio x = limited(3);
            send(x, way, Arrays.copyOf(frame, frame.length - 1));
            x.limit(2);
            due("lowered ahead of the mark", x.come(way, MARKS[way]), 3);
            send(x, way, Arrays.copyOf(frame, frame.length - 1));
            x.limit(3);
            due("raised ahead of the mark", x.come(way, MARKS[way]), 1);
            x.limit(1);
            row("lowered behind the mark", latest(x, way), bytes(5, 6, 7));
        }
        // The payload counts, not the bytes that tell it.
        due("way 0, one zero", send(limited(1), 0, bytes(1, 1, 0)), 1);
        due("way 0, two zeros", send(limited(1), 0, bytes(1, 1, 1, 0)), 3);
        due("way 1, two pairs", send(limited(2), 1, bytes(219, 220, 219, 221, 192)), 1);
        due("way 1, three pairs", send(limited(2), 1, bytes(219, 220, 219, 221, 219, 220, 192)), 3);
        due("way 2, one pair", send(limited(1), 2, frameOf(2, bytes(126))), 1);
        due("way 2, two pairs", send(limited(1), 2, frameOf(2, bytes(126, 125))), 3);
    }

    private static void malformedAboveTheLimitIsMalformed() {
        about("Terms, reading: \"What isn't so is MALFORMED; what is so, with a payload above the limit\"");
        for (int length : new int[] {4, 5, 6, 399, 400, 401, 402, 403}) {
            CountedTrio x = limited(length > 100 ? 400 : 5);
            byte[] body = filled(length, 7);
            due("way 0 of " + length, pour(x, 0, join(filled(length + 1, 1), bytes(2, 0))), 2);
            due("way 1 of " + length, pour(x, 1, join(body, bytes(219, 192))), 2);
            due("way 1 begun so, of " + length, pour(x, 1, join(bytes(219), body, bytes(192))), 2);
            byte[] spoilt = frameOf(2, body);
            spoilt[length - 1] ^= 1;
            due("way 2 of " + length, pour(x, 2, spoilt), 2);
            due("way 2 begun so, of " + length, pour(x, 2, join(bytes(125, 125), frameOf(2, body))), 2);
            counts(x, 0, 0, 1, 0);
            counts(x, 1, 0, 2, 0);
            counts(x, 2, 0, 2, 0);
        }
    }

    private static void chunksFarAboveTheLimit() {
        about("Terms, reading: OVERSIZE, of chunks as long as a run of calls can make them");
        for (int length : new int[] {508, 799, 800, 801, 1999, 2000, 2001, 9000}) {
            CountedTrio x = new CountedTrio();
            due("way 0 of " + length, pour(x, 0, join(filled(length + 1, 1), bytes(0))), 3);
            due("nothing behind it is harmed", send(x, 0, bytes(2, 5, 0)), 1);
            row("way 0 behind " + length, latest(x, 0), bytes(5));
            x = new CountedTrio();
            due("way 1 of " + length, pour(x, 1, join(filled(length, 7), bytes(192))), 3);
            due("nothing behind it is harmed", send(x, 1, bytes(5, 192)), 1);
            row("way 1 behind " + length, latest(x, 1), bytes(5));
            x = new CountedTrio();
            due("way 2 of " + length, pour(x, 2, frameOf(2, filled(length, 7))), 3);
            due("nothing behind it is harmed", send(x, 2, frameOf(2, bytes(5))), 1);
            row("way 2 behind " + length, latest(x, 2), bytes(5));
        }
        byte[] full = join(bytes(255), counting(254));
        due("two groups of 254", pour(new CountedTrio(), 0, join(full, full, bytes(0))), 3);
    }

    private static void spoiltHarmsNothingBehindTheMark() {
        about("What it is: \"what is spoilt harms nothing behind the next mark\"");
        byte[][][] spoilt = {
            {bytes(0), bytes(9, 0), bytes(9, 5, 0), bytes(2, 5, 2, 0), join(bytes(255), counting(253), bytes(0))},
            {bytes(219, 192), bytes(219, 5, 192), bytes(5, 219, 219, 192), bytes(219, 5, 219, 192)},
            {bytes(5, 126), bytes(0, 0, 126), bytes(125, 126), bytes(125, 125, 126), bytes(5, 6, 7, 125, 126),
                bytes(125, 125, 5, 6, 7, 126), join(counting(100), bytes(126))}};
        for (int way = 0; way < 3; way++) {
            for (byte[] chunk : spoilt[way]) {
                CountedTrio x = new CountedTrio();
                byte[] good = frameOf(way, bytes(220, 93, 1));
                due("ahead", send(x, way, good), 1);
                due("spoilt " + Arrays.toString(chunk), send(x, way, chunk), 2);
                row("latest behind it", latest(x, way), bytes(220, 93, 1));
                due("good behind " + Arrays.toString(chunk), send(x, way, frameOf(way, bytes(221, 94))), 1);
                row("its payload", latest(x, way), bytes(221, 94));
                counts(x, way, 2, 1, 0);
            }
        }
    }

    private static void newObjectIsEmpty() {
        about("Promise 1: \"All streams are empty, nothing was read; the tape is empty.\"");
        due("NONE", FramingTrio.NONE, NONE);
        due("written", new CountedTrio().written(), 0);
        due("writtenAt", new CountedTrio().writtenAt(0), NONE);
        due("spoil", new CountedTrio().spoil(0, 1), false);
        due("the tape has no byte", new CountedTrio().end(1), false);
        due("the tape has none", new CountedTrio().end(0), true);
        due("a frame of nothing", new CountedTrio().tell(0), 2);
        CountedTrio other = new CountedTrio();
        layAndTell(other, 0, bytes(5));
        lay(other, bytes(6));
        other.come(1, 5);
        other.limit(1);
        due("another object's stream", new CountedTrio().written(), 0);
        for (int way = 0; way < 3; way++) {
            due("all " + way, new CountedTrio().all(way), 0);
            due("raw " + way, new CountedTrio().raw(way), 0);
            due("latest " + way, new CountedTrio().latest(way), NONE);
            due("latestAt " + way, new CountedTrio().latestAt(way, 0), NONE);
            counts(new CountedTrio(), way, 0, 0, 0);
            due("no chunk is open " + way, new CountedTrio().come(way, MARKS[way]), way == 0 ? 2 : 0);
        }
    }

    private static void feedBeyond400() {
        about("Promise 2: \"false, changing nothing, when it would have more than 400.\"");
        for (int size : new int[] {0, 1, 379, 380, 381, 382, 399, 400}) {
            boolean fits = size <= 380;
            byte[] more = bytes(128, 1, 2, 3, 255, 4, 5, 6, 0, 0, 0, 0, 127, 255, 255, 255, 1, 2, 3, 4);
            byte[] due = fits ? join(counting(size), more) : counting(size);
            CountedTrio x = new CountedTrio();
            lay(x, counting(size));
            due("at " + size, x.feed(0x80010203, 0xFF040506, 0, Integer.MAX_VALUE, 0x01020304), fits);
            due("not more than " + due.length, x.end(due.length + 1), false);
            due("as many as " + due.length, x.end(due.length), true);
            x.tell(0);
            x.all(0);
            row("the tape at " + size, latest(x, 0), due);
        }
        CountedTrio x = new CountedTrio();
        for (int i = 1; i <= 22; i++) {
            due("feed " + i, x.feed(i, i, i, i, i), i <= 20);
        }
        x.tell(0);
        due("the tape is empty once told", x.feed(1, 2, 3, 4, 5), true);
    }

    private static void endBeyondTapeOrBelow0() {
        about("Promise 3: \"false, changing nothing, when it has not so many, or n is below 0.\"");
        for (int size : new int[] {0, 1, 19, 20, 21, 399, 400}) {
            CountedTrio x = new CountedTrio();
            lay(x, counting(size));
            due("one more than " + size, x.end(size + 1), false);
            due("two more than " + size, x.end(size + 2), false);
            for (int n : ODD_NUMBERS) {
                due(n + " of " + size, x.end(n), false);
            }
            x.tell(0);
            x.all(0);
            row("unchanged at " + size, latest(x, 0), counting(size));

            x = new CountedTrio();
            lay(x, counting(size));
            due("all of " + size, x.end(size), true);
            due("one less than " + size, x.end(size - 1), size > 0);
            due(size + " are no more", x.end(size), size == 0);
            x.tell(0);
            x.all(0);
            row("one less than " + size, latest(x, 0), counting(Math.max(0, size - 1)));

            x = new CountedTrio();
            lay(x, counting(size));
            due("none of " + size, x.end(0), true);
            due("one when none is left", x.end(1), false);
            due("-1 when none is left", x.end(-1), false);
            due("none when none is left", x.end(0), true);
        }
    }

    private static void limitOfAnotherNumber() {
        about("Promise 4: \"false for another number.\"");
        for (int n : new int[] {1, 2, 399, 400}) {
            due("limit " + n, new CountedTrio().limit(n), true);
        }
        for (int n : new int[] {0, -1, -400, 401, 402, 65537, Integer.MIN_VALUE, Integer.MAX_VALUE}) {
            due("limit " + n, new CountedTrio().limit(n), false);
            CountedTrio x = limited(5);
            due("limit " + n + " behind 5", x.limit(n), false);
            tellsByLength(x, 1, 5, 5);
            refusesToTell(x, 1, counting(6));
            CountedTrio first = new CountedTrio();
            first.limit(n);
            tellsByLength(first, 1, 400, 400);
        }
    }

    private static void tellForNoSuchWay() {
        about("Promise 5: \"NONE, nothing being written, for no such way\"");
        for (int way : NO_WAYS) {
            refusesToTell(new CountedTrio(), way, bytes());
            refusesToTell(new CountedTrio(), way, bytes(5));
            CountedTrio x = new CountedTrio();
            layAndTell(x, 1, bytes(5, 6));
            refusesToTell(x, way, bytes(5));
        }
        for (int way = 0; way < 3; way++) {
            tells(way, bytes(5), frameOf(way, bytes(5)));
        }
    }

    private static void tellAboveTheLimit() {
        about("Promise 5: \"NONE, nothing being written, for .. a payload above the limit\"");
        for (int way = 0; way < 3; way++) {
            for (int limit : new int[] {1, 2, 19, 20, 254, 399}) {
                CountedTrio x = limited(limit);
                layAndTell(x, 1, bytes(5));
                refusesToTell(x, way, counting(limit + 1));
                int frame = frameOf(way, counting(limit)).length;
                due("at the limit of " + limit, layAndTell(x, way, counting(limit)), 2 + frame);
                due("the tape is empty then", x.end(1), false);
            }
        }
    }

    private static void tellOfNoBytes() {
        about("Promise 5: \"NONE, nothing being written, for .. none in ways 1 and 2\"");
        for (int way = 1; way < 3; way++) {
            CountedTrio x = new CountedTrio();
            refusesToTell(x, way, bytes());
            due("way 0 tells it", x.tell(0), 2);
            refusesToTell(x, way, bytes());
            x.feed(1, 2, 3, 4, 5);
            x.end(0);
            due("of a tape that was cut to none", x.tell(way), NONE);
            due("one byte", layAndTell(x, way, bytes(5)), 2 + frameOf(way, bytes(5)).length);
            due("told once, the tape is empty", x.tell(way), NONE);
        }
    }

    private static void tellBeyond2000() {
        about("Promise 5: \"NONE, nothing being written, .. when more than 2000 would be written.\"");
        byte[][] payloads = {bytes(), bytes(5), bytes(0), bytes(192, 219), bytes(125, 126), counting(255), counting(400)};
        for (int way = 0; way < 3; way++) {
            for (byte[] payload : payloads) {
                if (way == 0 || payload.length > 0) {
                    tellsUpTo2000(way, payload);
                }
            }
        }
    }

    private static void tellsUpTo2000(int way, byte[] payload) {
        byte[] frame = frameOf(way, payload);
        for (int total = 1999; total <= 2001; total++) {
            int before = total - frame.length;
            String call = payload.length + " bytes in way " + way + " up to " + total;
            CountedTrio x = new CountedTrio();
            fill(x, before);
            due(call, layAndTell(x, way, payload), total <= 2000 ? total : NONE);
            due(call + ", tape", x.end(1), false);
            int after = total <= 2000 ? total : before;
            due(call + ", written", x.written(), after);
            due(call + ", ahead", x.writtenAt(before - 1), 192);
            due(call + ", first", x.writtenAt(before), total <= 2000 ? frame[0] & 255 : NONE);
            due(call + ", last", x.writtenAt(after - 1), total <= 2000 ? MARKS[way] : 192);
            due(call + ", behind", x.writtenAt(after), NONE);
            if (total == 2001 && before < 1999) {
                fillBehind(x, before, 2000);
                due(call + ", filled", x.written(), 2000);
                due(call + ", filled, last", x.writtenAt(1999), 192);
            }
        }
    }

    private static void writtenFromNothingTo2000() {
        about("Promise 6: \"How many bytes are written.\"");
        CountedTrio x = new CountedTrio();
        due("nothing", x.written(), 0);
        x.feed(1, 2, 3, 4, 5);
        due("the tape is not written", x.written(), 0);
        x.end(0);
        x.tell(1);
        due("nothing was told", x.written(), 0);
        x.come(0, 5);
        due("what comes is not written", x.written(), 0);
        x.tell(0);
        due("the shortest frame", x.written(), 2);
        for (int size : new int[] {1998, 1999, 2000}) {
            x = new CountedTrio();
            fill(x, size);
            due("written " + size, x.written(), size);
        }
        x.tell(0);
        due("no more than 2000", x.written(), 2000);
        x.all(2);
        due("nothing again", x.written(), 0);
    }

    private static void writtenAtEnds() {
        about("Promise 7: \"Byte i of these; NONE.\"");
        for (int i : new int[] {-1, 0, 1, 1999, 2000}) {
            due(i + " of nothing", new CountedTrio().writtenAt(i), NONE);
        }
        CountedTrio x = new CountedTrio();
        layAndTell(x, 0, bytes(255, 128));
        row("bytes", written(x), bytes(3, 255, 128, 0));
        due("first", x.writtenAt(0), 3);
        due("highest byte", x.writtenAt(1), 255);
        due("last", x.writtenAt(3), 0);
        due("behind", x.writtenAt(4), NONE);
        due("two behind", x.writtenAt(5), NONE);
        for (int i : ODD_NUMBERS) {
            due("at " + i, x.writtenAt(i), NONE);
        }
        for (int size : new int[] {1999, 2000}) {
            x = new CountedTrio();
            fill(x, size);
            due("ahead of " + size, x.writtenAt(-1), NONE);
            due("first of " + size, x.writtenAt(0), 7);
            due("last but one of " + size, x.writtenAt(size - 2), 7);
            due("last of " + size, x.writtenAt(size - 1), 192);
            due("behind " + size, x.writtenAt(size), NONE);
        }
        x.all(1);
        due("first of what was written", x.writtenAt(0), NONE);
        due("last of what was written", x.writtenAt(1999), NONE);
    }

    private static void spoilByLowestEightBits() {
        about("Promise 8: \"a mask (its lowest eight bits)\"");
        CountedTrio x = new CountedTrio();
        layAndTell(x, 1, bytes(0x5A, 6));
        int now = 0x5A;
        for (int bit = 0; bit < 32; bit++) {
            due("bit " + bit, x.spoil(0, 1 << bit), true);
            now ^= bit < 8 ? 1 << bit : 0;
            due("turned by bit " + bit, x.writtenAt(0), now);
        }
        for (int mask : new int[] {0, 1, 127, 128, 254, 255, 256, 257, 511, -1, -256, -255, Integer.MIN_VALUE}) {
            due("mask " + mask, x.spoil(0, mask), true);
            now ^= mask & 255;
            due("turned by " + mask, x.writtenAt(0), now);
        }
        due("the next is not turned", x.writtenAt(1), 6);
        due("nor the last", x.writtenAt(2), 192);
    }

    private static void spoilWhereThereIsNone() {
        about("Promise 8: \"false when there is none.\"");
        due("of nothing", new CountedTrio().spoil(0, 1), false);
        due("of nothing, -1", new CountedTrio().spoil(-1, 1), false);
        CountedTrio x = new CountedTrio();
        layAndTell(x, 1, bytes(5, 6));
        due("behind", x.spoil(3, 1), false);
        due("behind, by 0", x.spoil(3, 0), false);
        due("two behind", x.spoil(4, 1), false);
        for (int i : ODD_NUMBERS) {
            due("at " + i, x.spoil(i, 1), false);
        }
        row("nothing is turned", written(x), bytes(5, 6, 192));
        due("first", x.spoil(0, 8), true);
        due("last", x.spoil(2, 1), true);
        due("last, by 0", x.spoil(2, 0), true);
        row("first and last are turned", written(x), bytes(13, 6, 193));
        x.all(1);
        due("of what was written", x.spoil(0, 1), false);
        layAndTell(x, 1, bytes(9));
        row("what is written next", written(x), bytes(9, 192));
        x = new CountedTrio();
        fill(x, 2000);
        due("byte 1999", x.spoil(1999, 1), true);
        due("byte 1999 is turned", x.writtenAt(1999), 193);
        due("byte 2000", x.spoil(2000, 1), false);
    }

    private static void comeByLowestEightBits() {
        about("Promise 9: \"A byte (its lowest eight bits)\"");
        int[] above = {0, 256, 512, 0x7FFFFF00, 0x80000000, -256, -512};
        for (int way = 0; way < 3; way++) {
            for (int high : above) {
                CountedTrio x = new CountedTrio();
                byte[] frame = frameOf(way, bytes(255, 128, 1));
                for (int i = 0; i < frame.length - 1; i++) {
                    due("byte " + i + " with " + high, x.come(way, frame[i] & 255 | high), 0);
                }
                due("mark with " + high, x.come(way, MARKS[way] | high), 1);
                row("payload with " + high, latest(x, way), bytes(255, 128, 1));
            }
        }
        due("255 is no mark", new CountedTrio().come(0, 255), 0);
        due("256 is the mark 0", new CountedTrio().come(0, 256), 2);
        due("257 is no mark", new CountedTrio().come(0, 257), 0);
        due("-1 is no mark", new CountedTrio().come(0, -1), 0);
        due("-256 is the mark 0", new CountedTrio().come(0, -256), 2);
    }

    private static void comeAnswersNoughtAtNoMark() {
        about("Promise 9: \"0 no mark, or an empty chunk that is nothing\"");
        for (int way = 0; way < 3; way++) {
            for (int b = 0; b < 256; b++) {
                int verdict = way == 0 && b == 0 ? 2 : 0;
                due("first byte " + b + " in way " + way, new CountedTrio().come(way, b), verdict);
            }
            CountedTrio x = new CountedTrio();
            for (int b = 1; b < 256; b++) {
                boolean escaped = b == 192 || b == 219 || b == 126 || b == 125;
                due("byte " + b + " in way " + way, x.come(way, escaped ? 7 : b), 0);
            }
            counts(x, way, 0, 0, 0);
        }
    }

    private static void comeForNoSuchWay() {
        about("Promise 9: \"NONE for no such way.\"");
        for (int no : NO_WAYS) {
            CountedTrio x = new CountedTrio();
            for (int way = 0; way < 3; way++) {
                byte[] frame = frameOf(way, bytes(5, 6));
                send(x, way, Arrays.copyOf(frame, frame.length - 1));
            }
            for (int b : new int[] {0, 192, 126, 219, 125, 7, 256, -1}) {
                due("byte " + b + " in way " + no, x.come(no, b), NONE);
            }
            for (int way = 0; way < 3; way++) {
                counts(x, way, 0, 0, 0);
                due("the chunk is unharmed " + way, x.come(way, MARKS[way]), 1);
                row("the chunk is unharmed " + way, latest(x, way), bytes(5, 6));
            }
        }
    }

    private static void allIsWrittenNoMore() {
        about("Promise 10: \"and is written no more\"");
        for (int way = 0; way < 3; way++) {
            CountedTrio x = new CountedTrio();
            due("of nothing", x.all(way), 0);
            due("nothing came", x.come(way, MARKS[way]), way == 0 ? 2 : 0);
            layAndTell(x, way, bytes(5));
            due("of one", x.all(way), 1);
            due("written", x.written(), 0);
            due("writtenAt", x.writtenAt(0), NONE);
            due("spoil", x.spoil(0, 1), false);
            due("again", x.all(way), 0);
            counts(x, way, 1, way == 0 ? 1 : 0, 0);
            byte[] next = frameOf(way, bytes(6));
            due("the next is told from the start", layAndTell(x, way, bytes(6)), next.length);
            row("the next", written(x), next);
        }
        CountedTrio x = new CountedTrio();
        fill(x, 2000);
        due("of 2000", x.all(1), 5);
        counts(x, 1, 5, 0, 0);
        due("there is room for 2000 again", layAndTell(x, 1, counting(7)), 8);
        x.all(1);
        fill(x, 2000);
        due("2000 again", x.written(), 2000);
        due("all of them again", x.all(1), 5);
        x = new CountedTrio();
        for (int i = 1; i <= 300; i++) {
            due("frames of no bytes", x.tell(0), 2 * i);
        }
        due("300 good ones", x.all(0), 300);
    }

    private static void allForNoSuchWay() {
        about("Promise 10: \"NONE, changing nothing, for no such way.\"");
        for (int no : NO_WAYS) {
            CountedTrio x = new CountedTrio();
            due("of nothing " + no, x.all(no), NONE);
            layAndTell(x, 0, bytes(5));
            x.come(1, 8);
            lay(x, bytes(9));
            due("no way " + no, x.all(no), NONE);
            row("written stays " + no, written(x), bytes(2, 5, 0));
            due("the tape stays " + no, x.end(2), false);
            due("the tape stays " + no, x.end(1), true);
            for (int way = 0; way < 3; way++) {
                counts(x, way, 0, 0, 0);
                due("none kept " + way, x.latest(way), NONE);
            }
            due("the chunk is unharmed", x.come(1, 192), 1);
            due("way 0 reads it still", x.all(0), 1);
        }
    }

    private static void rawEmptiesTheTape() {
        about("Promise 11: \"The tape's bytes (empty then) come to the reader of a way\"");
        for (int way = 0; way < 3; way++) {
            CountedTrio x = new CountedTrio();
            due("of nothing", x.raw(way), 0);
            lay(x, frameOf(way, bytes(5)));
            due("of one", x.raw(way), 1);
            due("the tape is empty then", x.end(1), false);
            due("again", x.raw(way), 0);
            counts(x, way, 1, 0, 0);
            due("nothing is written", x.written(), 0);
            x.come(way, MARKS[way]);
            lay(x, bytes(MARKS[way]));
            due("of a mark alone", x.raw(way), 0);
            counts(x, way, 1, way == 0 ? 2 : 0, 0);
        }
        CountedTrio x = new CountedTrio();
        lay(x, filled(400, 7));
        due("400 that are no mark", x.raw(1), 0);
        due("their mark", x.come(1, 192), 1);
        due("all 400 came", x.latest(1), 400);
        byte[] pairs = new byte[400];
        for (int i = 0; i < 400; i += 2) {
            pairs[i] = 1;
        }
        lay(x, pairs);
        due("200 good ones", x.raw(0), 200);
        due("the tape is empty then", x.feed(1, 2, 3, 4, 5), true);
        due("of twenty bytes", x.end(21), false);
    }

    private static void rawForNoSuchWay() {
        about("Promise 11: \"NONE (the tape is empty, too) for no such way.\"");
        for (int no : NO_WAYS) {
            CountedTrio x = new CountedTrio();
            due("of nothing " + no, x.raw(no), NONE);
            layAndTell(x, 1, bytes(5));
            x.come(0, 1);
            lay(x, bytes(0, 192, 126));
            due("no way " + no, x.raw(no), NONE);
            due("the tape is empty, too " + no, x.end(1), false);
            row("written stays " + no, written(x), bytes(5, 192));
            for (int way = 0; way < 3; way++) {
                counts(x, way, 0, 0, 0);
            }
            due("the chunk is unharmed " + no, x.come(0, 0), 1);
            lay(x, filled(400, 7));
            due("of a full tape " + no, x.raw(no), NONE);
            due("there is room again " + no, x.feed(1, 2, 3, 4, 5), true);
            due("for twenty bytes " + no, x.end(21), false);
        }
    }

    private static void latestBeforeAny() {
        about("Promise 12: \"NONE before any\"");
        for (int way = 0; way < 3; way++) {
            CountedTrio x = limited(2);
            due("nothing was read", x.latest(way), NONE);
            due("malformed", send(x, way, bytes(way == 0 ? 9 : escape(way), MARKS[way])), 2);
            due("behind malformed", x.latest(way), NONE);
            due("oversize", send(x, way, frameOf(way, bytes(5, 6, 7))), 3);
            due("behind oversize", x.latest(way), NONE);
            byte[] frame = frameOf(way, bytes(5, 6));
            send(x, way, Arrays.copyOf(frame, frame.length - 1));
            due("in an open chunk", x.latest(way), NONE);
            due("good", x.come(way, MARKS[way]), 1);
            due("behind good", x.latest(way), 2);
            for (int other = 0; other < 3; other++) {
                due("way " + other + " behind way " + way, x.latest(other), other == way ? 2 : NONE);
            }
            send(x, way, frameOf(way, bytes(5, 6, 7)));
            due("oversize behind good", x.latest(way), 2);
            send(x, way, bytes(way == 0 ? 9 : escape(way), MARKS[way]));
            due("malformed behind good", x.latest(way), 2);
        }
        for (int length : new int[] {0, 1, 2, 399, 400}) {
            for (int way = length == 0 ? 0 : 2; way >= 0; way--) {
                CountedTrio x = new CountedTrio();
                layAndTell(x, way, counting(length));
                x.all(way);
                due("of " + length + " in way " + way, x.latest(way), length);
            }
        }
    }

    private static void latestForNoSuchWay() {
        about("Promise 12: \"NONE .. for no such way.\"");
        CountedTrio x = new CountedTrio();
        for (int way = 0; way < 3; way++) {
            due("good " + way, send(x, way, frameOf(way, counting(way + 1))), 1);
        }
        for (int no : NO_WAYS) {
            due("no way " + no, x.latest(no), NONE);
        }
        for (int way = 0; way < 3; way++) {
            due("way " + way, x.latest(way), way + 1);
        }
    }

    private static void latestAtEnds() {
        about("Promise 13: \"Byte i of it; NONE.\"");
        for (int way = 0; way < 3; way++) {
            for (int i : new int[] {-1, 0, 1, 399, 400}) {
                due(i + " before any", new CountedTrio().latestAt(way, i), NONE);
            }
            for (int length : new int[] {0, 1, 2, 254, 255, 399, 400}) {
                if (way == 0 || length > 0) {
                    latestAtEndsOf(way, length);
                }
            }
            CountedTrio x = new CountedTrio();
            send(x, way, frameOf(way, bytes(5, 6, 7)));
            send(x, way, frameOf(way, bytes(8)));
            due("of the shorter one behind", x.latestAt(way, 0), 8);
            due("behind the shorter one", x.latestAt(way, 1), NONE);
            send(x, way, Arrays.copyOf(frameOf(way, bytes(1, 2, 3)), 3));
            due("an open chunk is not kept", x.latestAt(way, 0), 8);
            due("an open chunk is not kept", x.latestAt(way, 1), NONE);
        }
        CountedTrio x = new CountedTrio();
        for (int way = 0; way < 3; way++) {
            send(x, way, frameOf(way, bytes(255, way + 1)));
        }
        for (int no : NO_WAYS) {
            due("no way " + no, x.latestAt(no, 0), NONE);
            due("no way " + no + ", no byte", x.latestAt(no, -1), NONE);
        }
        for (int way = 0; way < 3; way++) {
            due("highest byte " + way, x.latestAt(way, 0), 255);
            due("its own byte " + way, x.latestAt(way, 1), way + 1);
        }
    }

    private static void latestAtEndsOf(int way, int length) {
        byte[] payload = counting(length);
        CountedTrio x = new CountedTrio();
        layAndTell(x, way, payload);
        x.all(way);
        String call = length + " bytes in way " + way;
        due("ahead of " + call, x.latestAt(way, -1), NONE);
        due("first of " + call, x.latestAt(way, 0), length == 0 ? NONE : payload[0] & 255);
        due("last of " + call, x.latestAt(way, length - 1), length == 0 ? NONE : payload[length - 1] & 255);
        due("behind " + call, x.latestAt(way, length), NONE);
        due("two behind " + call, x.latestAt(way, length + 1), NONE);
        for (int i : ODD_NUMBERS) {
            due(i + " of " + call, x.latestAt(way, i), NONE);
        }
    }

    private static void countOfOthers() {
        about("Promise 14: \"NONE for others.\"");
        for (int way = 0; way < 3; way++) {
            CountedTrio x = limited(1);
            for (int n = 1; n <= 3; n++) {
                counts(x, way, n - 1, n - 1, n - 1);
                due("good", send(x, way, frameOf(way, bytes(5))), 1);
                counts(x, way, n, n - 1, n - 1);
                due("malformed", send(x, way, bytes(way == 0 ? 9 : escape(way), MARKS[way])), 2);
                counts(x, way, n, n, n - 1);
                due("oversize", send(x, way, frameOf(way, bytes(5, 6))), 3);
                counts(x, way, n, n, n);
            }
            for (int what : new int[] {0, 4, 5, -1, Integer.MIN_VALUE, Integer.MAX_VALUE}) {
                due("way " + way + ", what " + what, x.count(way, what), NONE);
            }
            for (int no : NO_WAYS) {
                for (int what = 0; what <= 4; what++) {
                    due("no way " + no + ", what " + what, x.count(no, what), NONE);
                }
            }
            for (int other = 0; other < 3; other++) {
                int n = other == way ? 3 : 0;
                counts(x, other, n, n, n);
            }
        }
    }

    private static CountedTrio limited(int limit) {
        CountedTrio x = new CountedTrio();
        x.limit(limit);
        return x;
    }

    /** 1, 2, .. 255, 1, 2, ..: no 0 among them, so that way 0's groups are plain to see. */
    private static byte[] counting(int length) {
        byte[] row = new byte[length];
        for (int i = 0; i < length; i++) {
            row[i] = (byte) (i % 255 + 1);
        }
        return row;
    }

    private static int escape(int way) {
        return way == 1 ? 219 : 125;
    }

    /** The frame of a payload that, for way 0, has either no 0 or no other byte. */
    private static byte[] frameOf(int way, byte[] payload) {
        if (way == 0) {
            return grouped(payload);
        }
        byte[] frame = {};
        for (byte b : payload) {
            frame = join(frame, way == 1 ? toldInWay1(b & 255) : toldInWay2(b & 255));
        }
        return way == 1 ? join(frame, bytes(192)) : join(frame, toldCheck(payload), bytes(126));
    }

    private static byte[] toldInWay1(int b) {
        return b == 192 ? bytes(219, 220) : b == 219 ? bytes(219, 221) : bytes(b);
    }

    private static byte[] toldInWay2(int b) {
        return b == 125 ? bytes(125, 93) : b == 126 ? bytes(125, 94) : bytes(b);
    }

    private static byte[] grouped(byte[] payload) {
        if (payload.length == 0 || payload[0] == 0) {
            return join(filled(payload.length + 1, 1), bytes(0));
        }
        byte[] frame = {};
        for (int i = 0; i < payload.length; i += 254) {
            int stop = Math.min(payload.length, i + 254);
            frame = join(frame, bytes(stop - i + 1), Arrays.copyOfRange(payload, i, stop));
        }
        return join(frame, bytes(0));
    }

    /** The tape holds at most 400, so a longer payload cannot be told at all. */
    private static void tellsByLength(CountedTrio x, int way, int length, int limit) {
        boolean fine = length <= limit && (length > 0 || way == 0);
        if (length <= 400) {
            due("tell " + length + " bytes in way " + way + ", limit " + limit, layAndTell(x, way, counting(length)),
                    fine ? frameOf(way, counting(length)).length : NONE);
        }
    }

    private static void readsByLength(CountedTrio x, int way, int length, int limit) {
        if (length > 0 || way == 0) {
            due("read " + length + " bytes in way " + way + ", limit " + limit,
                    pour(x, way, frameOf(way, counting(length))), length <= limit ? 1 : 3);
        }
    }

    /** Refused, with no byte of the stream changed, and the tape empty. */
    private static void refusesToTell(CountedTrio x, int way, byte[] payload) {
        String call = "tell(" + way + ") of " + payload.length;
        byte[] before = written(x);
        due(call, layAndTell(x, way, payload), NONE);
        row(call + ", written", written(x), before);
        due(call + ", behind what is written", x.writtenAt(before.length), NONE);
        due(call + ", the tape", x.end(1), false);
    }

    /** Writes frames of way 1, of sevens, up to a size. */
    private static void fill(CountedTrio x, int size) {
        fillBehind(x, 0, size);
    }

    private static void fillBehind(CountedTrio x, int start, int size) {
        int now = start;
        while (now < size) {
            int left = size - now;
            // A frame has at least two bytes, so none may leave a single one.
            int frame = Math.min(left, left == 402 ? 400 : 401);
            now = layAndTell(x, 1, filled(frame - 1, 7));
            if (now < 0) {
                due("filling up to " + size, now, size);
                return;
            }
        }
    }

    private static void counts(CountedTrio x, int way, int good, int malformed, int oversize) {
        due("good in way " + way, x.count(way, 1), good);
        due("malformed in way " + way, x.count(way, 2), malformed);
        due("oversize in way " + way, x.count(way, 3), oversize);
    }
}
