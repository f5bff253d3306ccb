import java.util.Arrays;

/** For each promise of the document: ordinary inputs, the edges it names, and wrong inputs. */
public final class PromiseTest extends FramingTest {
    public static void main(String[] args) {
        about("promise");
        promise1NewObject();
        promise2Feed();
        promise3End();
        promise4Limit();
        promise5TellWay0();
        promise5TellWay1();
        promise5TellWay2();
        promise5TellRefuses();
        promise5TellRoom();
        promise6And7Written();
        promise8Spoil();
        promise9ComeWay0();
        promise9ComeWay1();
        promise9ComeWay2();
        promise9ComeOversize();
        promise9LongChunks();
        promise10All();
        promise11Raw();
        promise12And13Latest();
        promise14Count();
        finish();
    }

    private static void promise1NewObject() {
        CountedTrio x = new CountedTrio();
        due("1 NONE", FramingTrio.NONE, -1);
        due("1 written", x.written(), 0);
        due("1 writtenAt", x.writtenAt(0), -1);
        due("1 tape is empty", x.end(1), false);
        due("1 tape has 0", x.end(0), true);
        for (int way = 0; way < 3; way++) {
            due("1 latest " + way, x.latest(way), -1);
            due("1 latestAt " + way, x.latestAt(way, 0), -1);
            due("1 all " + way, x.all(way), 0);
            due("1 raw " + way, x.raw(way), 0);
            for (int what = 1; what <= 3; what++) {
                due("1 count " + way + " " + what, x.count(way, what), 0);
            }
        }
        CountedTrio other = new CountedTrio();
        other.come(0, 0);
        other.limit(1);
        due("1 objects are apart", new CountedTrio().count(0, 2), 0);
        due("1 limit is 400 at first", layAndTell(new CountedTrio(), 1, filled(400, 7)), 401);
    }

    private static void promise2Feed() {
        CountedTrio x = new CountedTrio();
        due("2 feed", x.feed(0x81828384, 0x05060708, 0x090A0B0C, 0x0D0E0F10, 0x111213FF), true);
        due("2 twenty bytes", x.end(21), false);
        due("2 told", x.tell(1), 21);
        row("2 highest first", written(x), bytes(0x81, 0x82, 0x83, 0x84, 5, 6, 7, 8, 9, 10, 11, 12,
                13, 14, 15, 16, 17, 18, 19, 255, 192));

        x = new CountedTrio();
        for (int i = 0; i < 20; i++) {
            due("2 feed " + i, x.feed(i, i, i, i, i), true);
        }
        due("2 beyond 400", x.feed(1, 2, 3, 4, 5), false);
        due("2 nothing changed", x.end(401), false);
        due("2 still 400", x.end(400), true);
        due("2 end 381", x.end(381), true);
        due("2 401 are too many", x.feed(1, 2, 3, 4, 5), false);
        due("2 381 are left", x.end(382), false);
        due("2 end 380", x.end(380), true);
        due("2 400 are not too many", x.feed(1, 2, 3, 4, 5), true);
        due("2 400 again", x.end(400), true);
    }

    private static void promise3End() {
        CountedTrio x = new CountedTrio();
        x.feed(0x01020304, 0x05060708, 0, 0, 0);
        due("3 below 0", x.end(-1), false);
        due("3 lowest", x.end(Integer.MIN_VALUE), false);
        due("3 too many", x.end(21), false);
        due("3 highest", x.end(Integer.MAX_VALUE), false);
        due("3 all of it", x.end(20), true);
        due("3 some", x.end(3), true);
        due("3 no way back", x.end(4), false);
        x.feed(0x11121314, 0, 0, 0, 0);
        due("3 feed goes on behind", x.end(5), true);
        x.tell(1);
        row("3 first bytes count", written(x), bytes(1, 2, 3, 17, 18, 192));
        x.feed(1, 1, 1, 1, 1);
        due("3 none", x.end(0), true);
        due("3 empty", x.tell(1), -1);
    }

    private static void promise4Limit() {
        CountedTrio x = new CountedTrio();
        due("4 0", x.limit(0), false);
        due("4 -1", x.limit(-1), false);
        due("4 401", x.limit(401), false);
        due("4 lowest", x.limit(Integer.MIN_VALUE), false);
        due("4 highest", x.limit(Integer.MAX_VALUE), false);
        due("4 unchanged", layAndTell(x, 1, filled(400, 7)), 401);
        due("4 1", x.limit(1), true);
        due("4 one byte", layAndTell(x, 1, filled(1, 7)), 403);
        due("4 two bytes", layAndTell(x, 1, filled(2, 7)), -1);
        due("4 401 again", x.limit(401), false);
        due("4 still 1", layAndTell(x, 1, filled(2, 7)), -1);
        due("4 400", x.limit(400), true);
        due("4 400 bytes", layAndTell(x, 1, filled(400, 7)), 804);
    }

    private static void promise5TellWay0() {
        tells(0, bytes(), bytes(1, 0));
        tells(0, bytes(0), bytes(1, 1, 0));
        tells(0, bytes(0, 0), bytes(1, 1, 1, 0));
        tells(0, bytes(5), bytes(2, 5, 0));
        tells(0, bytes(5, 0), bytes(2, 5, 1, 0));
        tells(0, bytes(0, 5), bytes(1, 2, 5, 0));
        tells(0, bytes(17, 34, 0, 51), bytes(3, 17, 34, 2, 51, 0));
        byte[] x253 = filled(253, 9);
        byte[] x254 = filled(254, 9);
        tells(0, x253, join(bytes(254), x253, bytes(0)));
        tells(0, join(x253, bytes(0)), join(bytes(254), x253, bytes(1, 0)));
        tells(0, x254, join(bytes(255), x254, bytes(0)));
        tells(0, join(x254, bytes(0)), join(bytes(255), x254, bytes(1, 1, 0)));
        tells(0, join(x254, bytes(0, 7)), join(bytes(255), x254, bytes(1, 2, 7, 0)));
        tells(0, join(x254, bytes(7)), join(bytes(255), x254, bytes(2, 7, 0)));
        tells(0, join(bytes(0), x254), join(bytes(1, 255), x254, bytes(0)));
        tells(0, join(bytes(3, 0), x254), join(bytes(2, 3, 255), x254, bytes(0)));
        tells(0, join(x254, filled(146, 8)), join(bytes(255), x254, bytes(147), filled(146, 8), bytes(0)));
        tells(0, filled(400, 0), join(filled(401, 1), bytes(0)));
    }

    private static void promise5TellWay1() {
        tells(1, bytes(0), bytes(0, 192));
        tells(1, bytes(192), bytes(219, 220, 192));
        tells(1, bytes(219), bytes(219, 221, 192));
        tells(1, bytes(220, 221, 191, 193, 218), bytes(220, 221, 191, 193, 218, 192));
        tells(1, bytes(219, 220, 192, 192), bytes(219, 221, 220, 219, 220, 219, 220, 192));
        tells(1, bytes(125, 126), bytes(125, 126, 192));
    }

    private static void promise5TellWay2() {
        tells(2, "123456789".getBytes(), join("123456789".getBytes(), bytes(0x6E, 0x90, 126)));
        tells(2, bytes(126), join(bytes(125, 94), toldCheck(bytes(126)), bytes(126)));
        tells(2, bytes(125), join(bytes(125, 93), toldCheck(bytes(125)), bytes(126)));
        // Single bytes run the check through every value of its lower byte, 125 and 126 among them.
        boolean escaped = false;
        for (int b = 0; b < 256; b++) {
            if (b != 125 && b != 126) {
                byte[] check = toldCheck(bytes(b));
                escaped |= check.length > 2;
                tells(2, bytes(b), join(bytes(b), check, bytes(126)));
            }
        }
        due("5 a check was escaped", escaped, true);
    }

    private static void promise5TellRefuses() {
        for (int way : NO_WAYS) {
            CountedTrio x = new CountedTrio();
            x.feed(1, 2, 3, 4, 5);
            due("5 no way " + way, x.tell(way), -1);
            due("5 nothing written " + way, x.written(), 0);
            due("5 tape empty " + way, x.end(1), false);
        }
        for (int way = 0; way < 3; way++) {
            CountedTrio x = new CountedTrio();
            due("5 empty payload " + way, x.tell(way), way == 0 ? 2 : -1);
            x = new CountedTrio();
            x.limit(19);
            x.feed(1, 2, 3, 4, 5);
            due("5 above the limit " + way, x.tell(way), -1);
            due("5 nothing written " + way, x.written(), 0);
            due("5 tape empty " + way, x.end(1), false);
            x.limit(20);
            x.feed(1, 2, 3, 4, 5);
            due("5 at the limit " + way, x.tell(way) > 20, true);
            due("5 tape empty then " + way, x.end(1), false);
        }
    }

    private static void promise5TellRoom() {
        CountedTrio x = new CountedTrio();
        for (int i = 1; i <= 4; i++) {
            due("5 room " + i, layAndTell(x, 1, filled(400, 7)), 401 * i);
        }
        due("5 2001", layAndTell(x, 1, filled(396, 7)), -1);
        due("5 still 1604", x.written(), 1604);
        due("5 nothing behind", x.writtenAt(1604), -1);
        due("5 tape empty", x.end(1), false);
        due("5 escaped 2001", layAndTell(x, 1, join(filled(394, 7), bytes(192))), -1);
        due("5 escaped 2000", layAndTell(x, 1, join(filled(393, 7), bytes(192))), 2000);
        due("5 full", x.written(), 2000);
        due("5 last byte", x.writtenAt(1999), 192);
        due("5 nothing behind 2000", x.writtenAt(2000), -1);
        due("5 way 0 behind", x.tell(0), -1);
        due("5 all", x.all(1), 5);
        due("5 room again", layAndTell(x, 2, bytes(1)), 4);

        x = new CountedTrio();
        for (int i = 0; i < 4; i++) {
            layAndTell(x, 1, filled(400, 7));
        }
        layAndTell(x, 1, filled(392, 7));
        due("5 1997", x.written(), 1997);
        due("5 way 2 has no room", layAndTell(x, 2, bytes(1)), -1);
        due("5 way 0 has room", x.tell(0), 1999);
        due("5 way 0 has none", x.tell(0), -1);
        due("5 1999 stay", x.written(), 1999);
        due("5 byte 1997", x.writtenAt(1997), 1);
        due("5 byte 1998", x.writtenAt(1998), 0);
    }

    private static void promise6And7Written() {
        CountedTrio x = new CountedTrio();
        layAndTell(x, 0, bytes(255));
        due("6 written", x.written(), 3);
        layAndTell(x, 1, bytes(200));
        due("6 behind", x.written(), 5);
        row("7 all ways in one stream", written(x), bytes(2, 255, 0, 200, 192));
        due("7 -1", x.writtenAt(-1), -1);
        due("7 5", x.writtenAt(5), -1);
        due("7 lowest", x.writtenAt(Integer.MIN_VALUE), -1);
        due("7 highest", x.writtenAt(Integer.MAX_VALUE), -1);
        x.all(2);
        due("6 no more", x.written(), 0);
        due("7 no more", x.writtenAt(0), -1);
    }

    private static void promise8Spoil() {
        CountedTrio x = new CountedTrio();
        due("8 empty", x.spoil(0, 1), false);
        layAndTell(x, 1, bytes(0x0F, 2));
        due("8 spoil", x.spoil(0, 0xFF), true);
        due("8 turned", x.writtenAt(0), 0xF0);
        due("8 mask 0", x.spoil(0, 0), true);
        due("8 the same", x.writtenAt(0), 0xF0);
        due("8 high bits", x.spoil(0, 0xABCDEF01), true);
        due("8 low eight count", x.writtenAt(0), 0xF1);
        due("8 negative", x.spoil(1, -1), true);
        due("8 turned round", x.writtenAt(1), 253);
        due("8 last", x.spoil(2, 1), true);
        due("8 last turned", x.writtenAt(2), 193);
        due("8 behind", x.spoil(3, 1), false);
        due("8 -1", x.spoil(-1, 1), false);
        due("8 lowest", x.spoil(Integer.MIN_VALUE, 1), false);
        due("8 highest", x.spoil(Integer.MAX_VALUE, 1), false);
        x.spoil(0, 0xF1 ^ 192);
        due("8 a mark is made", x.all(1), 0);
        due("8 its rest is open", x.come(1, 192), 1);
        row("8 the rest", latest(x, 1), bytes(253, 193));
        due("8 gone", x.spoil(0, 1), false);
    }

    private static void promise9ComeWay0() {
        reads(0, bytes(0), 2, null);
        reads(0, bytes(1, 0), 1, bytes());
        reads(0, bytes(1, 1, 0), 1, bytes(0));
        reads(0, bytes(2, 5, 0), 1, bytes(5));
        reads(0, bytes(2, 0), 2, null);
        reads(0, bytes(3, 5, 0), 2, null);
        reads(0, bytes(2, 5, 6, 0), 2, null);
        reads(0, bytes(2, 5, 1, 0), 1, bytes(5, 0));
        byte[] x254 = filled(254, 9);
        reads(0, join(bytes(255), x254, bytes(0)), 1, x254);
        reads(0, join(bytes(255), x254, bytes(1, 0)), 1, x254);
        reads(0, join(bytes(255), x254, bytes(1, 1, 0)), 1, join(x254, bytes(0)));
        reads(0, join(bytes(255), x254, bytes(2, 7, 0)), 1, join(x254, bytes(7)));
        reads(0, join(bytes(254), filled(253, 9), bytes(1, 0)), 1, join(filled(253, 9), bytes(0)));
        reads(0, join(bytes(255), filled(253, 9), bytes(0)), 2, null);
        CountedTrio x = new CountedTrio();
        send(x, 0, bytes(9, 1, 2));
        due("9 spoilt", x.come(0, 0), 2);
        due("9 nothing harmed", send(x, 0, bytes(2, 5, 0)), 1);
        row("9 behind the mark", latest(x, 0), bytes(5));
        for (int way : NO_WAYS) {
            due("9 no way " + way, x.come(way, 0), -1);
        }
        due("9 low eight bits", x.come(0, 0x102), 0);
        due("9 low eight bits", x.come(0, -1), 0);
        due("9 low eight bits", x.come(0, 256), 1);
        row("9 low eight bits", latest(x, 0), bytes(255));
    }

    private static void promise9ComeWay1() {
        reads(1, bytes(192), 0, null);
        reads(1, bytes(5, 192), 1, bytes(5));
        reads(1, bytes(219, 220, 219, 221, 192), 1, bytes(192, 219));
        reads(1, bytes(220, 221, 192), 1, bytes(220, 221));
        reads(1, bytes(219, 192), 2, null);
        reads(1, bytes(219, 219, 192), 2, null);
        reads(1, bytes(219, 219, 220, 192), 2, null);
        reads(1, bytes(219, 5, 192), 2, null);
        reads(1, bytes(219, 222, 6, 192), 2, null);
        reads(1, bytes(1, 219, 192), 2, null);
        CountedTrio x = new CountedTrio();
        due("9 spoilt", send(x, 1, bytes(219, 192)), 2);
        due("9 empty behind", x.come(1, 192), 0);
        due("9 nothing harmed", send(x, 1, bytes(220, 192)), 1);
        row("9 behind the mark", latest(x, 1), bytes(220));
        due("9 spoilt inside", send(x, 1, bytes(219, 5, 6, 192)), 2);
        due("9 nothing harmed", send(x, 1, bytes(7, 192)), 1);
        row("9 behind the mark", latest(x, 1), bytes(7));
    }

    private static void promise9ComeWay2() {
        byte[] nine = join("123456789".getBytes(), bytes(0x6E, 0x90, 126));
        reads(2, bytes(126), 0, null);
        reads(2, nine, 1, "123456789".getBytes());
        for (int i = 0; i < nine.length - 1; i++) {
            byte[] spoilt = nine.clone();
            spoilt[i] ^= 1;
            reads(2, spoilt, 2, null);
        }
        reads(2, bytes(1, 126), 2, null);
        // 0 0 is the check of no bytes, which is no frame.
        reads(2, bytes(0, 0, 126), 2, null);
        reads(2, bytes(125, 126), 2, null);
        reads(2, bytes(125, 125, 126), 2, null);
        reads(2, join("123456789".getBytes(), bytes(0x6E, 0x90, 125, 126)), 2, null);
        // A byte that need not be turned may come turned; 125 turned by 125 may not.
        reads(2, join(bytes(125, '1' ^ 32), "23456789".getBytes(), bytes(0x6E, 125, 0x90 ^ 32, 126)), 1,
                "123456789".getBytes());
        reads(2, join(bytes(125, 125), checkOf(bytes(93)), bytes(126)), 2, null);
        reads(2, join(bytes(125, 125, 94), toldCheck(bytes(126)), bytes(126)), 2, null);
        reads(2, join(bytes(125, 125), nine), 2, null);
        reads(2, join(bytes(125, 93), toldCheck(bytes(125)), bytes(126)), 1, bytes(125));
        reads(2, join(bytes(125, 94), toldCheck(bytes(126)), bytes(126)), 1, bytes(126));
        CountedTrio x = new CountedTrio();
        due("9 spoilt", send(x, 2, bytes(1, 2, 125, 126)), 2);
        due("9 empty behind", x.come(2, 126), 0);
        due("9 nothing harmed", send(x, 2, nine), 1);
        due("9 spoilt inside", send(x, 2, bytes(125, 125, 1, 126)), 2);
        due("9 nothing harmed", send(x, 2, nine), 1);
    }

    private static void promise9ComeOversize() {
        byte[][] frames = {bytes(4, 1, 2, 3, 0), bytes(1, 2, 3, 192), join(bytes(1, 2, 3), checkOf(bytes(1, 2, 3)), bytes(126))};
        for (int way = 0; way < 3; way++) {
            CountedTrio x = new CountedTrio();
            x.limit(3);
            due("9 at the limit " + way, send(x, way, frames[way]), 1);
            x.limit(2);
            due("9 above the limit " + way, send(x, way, frames[way]), 3);
            row("9 latest stays " + way, latest(x, way), bytes(1, 2, 3));
            send(x, way, Arrays.copyOf(frames[way], frames[way].length - 1));
            x.limit(3);
            due("9 the mark's limit counts " + way, x.come(way, frames[way][frames[way].length - 1]), 1);
        }
        CountedTrio x = new CountedTrio();
        x.limit(1);
        due("9 malformed ahead of oversize 0", send(x, 0, bytes(5, 1, 2, 3, 0)), 2);
        due("9 malformed ahead of oversize 1", send(x, 1, bytes(1, 2, 3, 219, 192)), 2);
        due("9 malformed ahead of oversize 2", send(x, 2, bytes(1, 2, 3, 4, 5, 126)), 2);
    }

    private static void promise9LongChunks() {
        for (int length : new int[] {399, 400, 401, 402, 403, 1000, 9000}) {
            int verdict = length > 400 ? 3 : 1;
            byte[] body = filled(length, 7);
            due("9 way 0 of " + length, pour(new CountedTrio(), 0, join(filled(length + 1, 1), bytes(0))), verdict);
            due("9 way 0 spoilt " + length, pour(new CountedTrio(), 0, join(filled(length + 1, 1), bytes(2, 0))), 2);
            due("9 way 1 of " + length, pour(new CountedTrio(), 1, join(body, bytes(192))), verdict);
            due("9 way 1 spoilt " + length, pour(new CountedTrio(), 1, join(body, bytes(219, 192))), 2);
            byte[] checked = join(body, toldCheck(body), bytes(126));
            due("9 way 2 of " + length, pour(new CountedTrio(), 2, checked), verdict);
            checked[length - 1] ^= 1;
            due("9 way 2 spoilt " + length, pour(new CountedTrio(), 2, checked), 2);
        }
        CountedTrio x = new CountedTrio();
        due("9 oversize", pour(x, 1, join(filled(500, 7), bytes(192))), 3);
        due("9 behind oversize", send(x, 1, bytes(8, 192)), 1);
        row("9 behind oversize", latest(x, 1), bytes(8));
    }

    private static void promise10All() {
        for (int way = 0; way < 3; way++) {
            CountedTrio x = new CountedTrio();
            layAndTell(x, way, bytes(1, 2));
            layAndTell(x, way, bytes(125, 126, 192, 219));
            layAndTell(x, way, bytes(3));
            for (int no : NO_WAYS) {
                due("10 no way " + no, x.all(no), -1);
            }
            due("10 nothing changed", x.written() > 0, true);
            x.spoil(0, 64);
            due("10 good ones " + way, x.all(way), way == 1 ? 3 : 2);
            due("10 malformed ones " + way, x.count(way, 2), way == 1 ? 0 : 1);
            due("10 written no more " + way, x.written(), 0);
            row("10 latest " + way, latest(x, way), bytes(3));
            due("10 none left " + way, x.all(way), 0);
        }
        CountedTrio x = new CountedTrio();
        x.come(0, 4);
        layAndTell(x, 1, bytes(1, 2));
        lay(x, bytes(5, 6));
        due("10 to another way's reader", x.all(0), 0);
        due("10 tape stays", x.end(3), false);
        due("10 tape stays", x.end(2), true);
        due("10 the chunk goes on", x.come(0, 0), 1);
        row("10 the chunk went on", latest(x, 0), bytes(1, 2, 192));
        x.come(1, 9);
        layAndTell(x, 1, bytes(8));
        due("10 behind what came", x.all(1), 1);
        row("10 behind what came", latest(x, 1), bytes(9, 8));
    }

    private static void promise11Raw() {
        for (int no : NO_WAYS) {
            CountedTrio x = new CountedTrio();
            x.feed(1, 2, 3, 4, 5);
            due("11 no way " + no, x.raw(no), -1);
            due("11 tape empty, too " + no, x.end(1), false);
        }
        CountedTrio x = new CountedTrio();
        lay(x, bytes(2, 5, 0, 0, 1, 0, 3, 1));
        due("11 way 0", x.raw(0), 2);
        due("11 malformed", x.count(0, 2), 1);
        due("11 tape empty", x.end(1), false);
        lay(x, bytes(2, 0));
        due("11 a chunk in two parts", x.raw(0), 1);
        row("11 a chunk in two parts", latest(x, 0), bytes(1, 2));
        lay(x, bytes(192, 192, 1, 192, 219, 192, 2, 192));
        due("11 way 1", x.raw(1), 2);
        lay(x, join(bytes(126, 126), "123456789".getBytes(), bytes(0x6E, 0x90, 126, 125, 126)));
        due("11 way 2", x.raw(2), 1);
        due("11 way 2 malformed", x.count(2, 2), 1);
        due("11 nothing written", x.written(), 0);
        layAndTell(x, 0, bytes(1));
        lay(x, bytes(1, 0));
        due("11 beside what is written", x.raw(0), 1);
        due("11 written stays", x.written(), 3);
        lay(x, filled(400, 0));
        due("11 400 empty chunks", x.raw(0), 0);
        due("11 400 more are malformed", x.count(0, 2), 401);
        x.limit(1);
        lay(x, bytes(1, 2, 3, 192, 4, 192));
        due("11 longer than the limit", x.raw(1), 1);
        due("11 oversize", x.count(1, 3), 1);
    }

    private static void promise12And13Latest() {
        CountedTrio x = new CountedTrio();
        send(x, 1, bytes(219, 192));
        due("12 none before a good one", x.latest(1), -1);
        due("13 none before a good one", x.latestAt(1, 0), -1);
        send(x, 0, bytes(3, 5, 255, 0));
        due("12 way 0", x.latest(0), 2);
        due("12 way 1", x.latest(1), -1);
        due("12 way 2", x.latest(2), -1);
        due("13 0", x.latestAt(0, 0), 5);
        due("13 1", x.latestAt(0, 1), 255);
        due("13 2", x.latestAt(0, 2), -1);
        due("13 -1", x.latestAt(0, -1), -1);
        due("13 lowest", x.latestAt(0, Integer.MIN_VALUE), -1);
        due("13 highest", x.latestAt(0, Integer.MAX_VALUE), -1);
        send(x, 0, bytes(3, 7));
        row("12 an open chunk changes nothing", latest(x, 0), bytes(5, 255));
        send(x, 0, bytes(0));
        row("12 a malformed one changes nothing", latest(x, 0), bytes(5, 255));
        x.limit(1);
        row("12 the limit changes nothing", latest(x, 0), bytes(5, 255));
        send(x, 0, bytes(4, 1, 2, 3, 0));
        row("12 an oversize one changes nothing", latest(x, 0), bytes(5, 255));
        send(x, 0, bytes(2, 6, 0));
        row("12 a good one does", latest(x, 0), bytes(6));
        due("13 behind the shorter one", x.latestAt(0, 1), -1);
        send(x, 0, bytes(1, 0));
        due("12 of no bytes", x.latest(0), 0);
        due("13 of no bytes", x.latestAt(0, 0), -1);
        for (int no : NO_WAYS) {
            due("12 no way " + no, x.latest(no), -1);
            due("13 no way " + no, x.latestAt(no, 0), -1);
        }
    }

    private static void promise14Count() {
        CountedTrio x = new CountedTrio();
        x.limit(2);
        send(x, 1, bytes(192, 1, 192, 2, 192, 3, 192, 219, 192, 219, 192, 1, 2, 3, 192));
        due("14 good", x.count(1, 1), 3);
        due("14 malformed", x.count(1, 2), 2);
        due("14 oversize", x.count(1, 3), 1);
        for (int what = 1; what <= 3; what++) {
            due("14 way 0 is apart", x.count(0, what), 0);
            due("14 way 2 is apart", x.count(2, what), 0);
            for (int no : NO_WAYS) {
                due("14 no way " + no, x.count(no, what), -1);
            }
        }
        for (int what : new int[] {-1, 0, 4, Integer.MIN_VALUE, Integer.MAX_VALUE}) {
            due("14 no such count " + what, x.count(1, what), -1);
        }
    }
}
