/** Edges of COVERS and draws (==== 3), promises 32 to 35: each case names the words of the document that it is about. */
public final class CoverDrawEdgesTest {
    private static final Check CHECK = new Check("CoverDrawEdgesTest");
    private static final int LEAST = Integer.MIN_VALUE;
    private static final int MOST = Integer.MAX_VALUE;

    private static long x;

    private static void pass(DumbwaiterYoung y, int hours) {
        for (int left = hours; left > 0; left -= 60) {
            y.hours(Math.min(left, 60));
        }
    }

    private static void is(DumbwaiterYoung y, int c, String want) {
        CHECK.due("cover(" + c + ") of '" + want + "'", y.cover(c), want.length());
        for (int i = 0; i < want.length(); i++) {
            CHECK.due("byteAt(" + i + ") of '" + want + "'", y.byteAt(i), want.charAt(i));
        }
        int[] none = {-1, want.length(), want.length() + 1, LEAST, MOST};
        for (int i : none) {
            CHECK.due("none such: byteAt(" + i + ") of '" + want + "'", y.byteAt(i), -1);
        }
    }

    private static void covers() {
        CHECK.about(33, "NONE: none such.");
        DumbwaiterYoung y = Check.with("floor a manners 1;floor abcdefg music 1;floor c faith 1;floor d letters 1;"
            + "child hijklmn 1;child o 1;law manners 1;law music 1;law faith 1;law letters 1;rope 500;");
        for (int i = -1; i <= 1; i++) {
            CHECK.due("ahead of any: byteAt(" + i + ")", y.byteAt(i), -1);
        }
        CHECK.about(32, "how many bytes; NONE: no such one.");
        int[] none = {-1, 2, LEAST, MOST};
        for (int c : none) {
            CHECK.due("outside: cover(" + c + ")", y.cover(c), -1);
        }
        CHECK.due("still ahead of any", y.byteAt(0), -1);
        CHECK.about(32, "' in cellar' or ' on ' and the FLOOR's NAME, and behind that ' ready', if it LACKS nothing, or ' lacks' and for each GIFT that it LACKS a blank and the GIFT");
        is(y, 1, "o in cellar lacks manners music faith letters");
        y.send(0, 2);
        is(y, 0, "hijklmn on abcdefg lacks manners music faith letters");
        y.hours(1);
        is(y, 0, "hijklmn on abcdefg lacks manners faith letters");
        y.send(0, 4);
        y.hours(1);
        is(y, 0, "hijklmn on d lacks manners faith");
        y.send(0, 1);
        y.hours(1);
        is(y, 0, "hijklmn on a lacks faith");
        y.send(0, 3);
        y.hours(1);
        is(y, 0, "hijklmn on c ready");
        y.send(0, 0);
        is(y, 0, "hijklmn in cellar ready");
        CHECK.about(32, "its NAME, then ' served', if it is, and nothing else");
        y.serve(0);
        is(y, 0, "hijklmn served");
        CHECK.about(33, "Byte i of the latest COVER");
        y.back(0);
        CHECK.due("what is so now does not change it", y.byteAt(8), 's');
        y.cover(2);
        CHECK.due("nor a cover() of NONE", y.byteAt(8), 's');
        Check.tower(y, "");
        CHECK.due("nor another TOWER", y.byteAt(8), 's');
        y.cover(0);
        CHECK.due("nor nobody's there", y.byteAt(8), 's');
        Check.tower(y, "child a 1;");
        is(y, 0, "a in cellar ready");
    }

    /** The draw told in the document, with longs, so that nothing wraps by itself. */
    private static int draw(int n) {
        x = (x * 1103515245L + 12345L) & 0xffffffffL;
        return (int) ((x >> 8) % n);
    }

    /** An HOUR DRAWN, by single calls. */
    private static void drawHour(DumbwaiterYoung y) {
        for (int c = 0; c < y.count(1); c++) {
            if (Check.child(y, c, 0) != -1) {
                int choice = draw(4);
                if (choice == 0) {
                    y.send(c, draw(y.count(0) + 1));
                } else if (choice == 1) {
                    y.serve(c);
                }
            }
        }
        y.hours(1);
    }

    private static void asDrawn(String what, String text, int n, int seed) {
        DumbwaiterYoung a = Check.with(text);
        DumbwaiterYoung b = Check.with(text);
        CHECK.due("drawn(" + n + ", " + seed + "): " + what, a.drawn(n, seed), n);
        x = seed & 0xffffffffL;
        for (int i = 0; i < n; i++) {
            drawHour(b);
        }
        CHECK.yes("as by single calls, drawn(" + n + ", " + seed + "): " + what, Check.all(a).equals(Check.all(b)));
    }

    private static void draws() {
        CHECK.about(34, "for each draw of n x becomes x * 1103515245 + 12345 (an int, wrapping), the draw is (x >>> 8) % n");
        StringBuilder eight = new StringBuilder();
        for (int i = 0; i < 8; i++) {
            eight.append("floor f").append((char) ('a' + i)).append(i % 2 == 0 ? " music 4;" : " faith 3 cold;");
        }
        String full = eight + "child a 3;child b 4;child c 5;child d 6;child e 7;child f 8;uncle u 1;law music 12;law faith 6;rope 60;";
        int[] seeds = {0, 1, -1, MOST, LEAST, 12345, -12345, 1103515245};
        for (int seed : seeds) {
            asDrawn("8 FLOORS, 6 CHILDREN", full, 1, seed);
            asDrawn("8 FLOORS, 6 CHILDREN", full, 60, seed);
            CHECK.about(34, "a draw of all FLOORS and the cellar: it is sent there, if it can be; 1: it is served, if it can be; then the HOUR");
            asDrawn("no FLOOR", "child a 3;child b 4;law music 1;", 20, seed);
            asDrawn("one FLOOR", "floor f music 1;child a 3;child b 4;law music 3;", 60, seed);
            asDrawn("no law", "floor f music 1;child a 3;child b 4;child c 4;", 9, seed);
            asDrawn("no CHILD", "floor f music 1;", 3, seed);
            asDrawn("an empty TOWER", "", 60, seed);
        }
    }

    private static void drawn() {
        CHECK.about(34, "n (1 to 60) HOURS DRAWN by a seed: how many went by; NONE: not as told.");
        DumbwaiterYoung y = Check.with(Check.HOUSE);
        String was = Check.all(y);
        int[] none = {0, -1, 61, LEAST, MOST};
        for (int n : none) {
            CHECK.due("outside: drawn(" + n + ", 1)", y.drawn(n, 1), -1);
        }
        CHECK.yes("nothing changed", was.equals(Check.all(y)));
        CHECK.due("inside: drawn(1, 1)", y.drawn(1, 1), 1);
        CHECK.due("inside: drawn(60, 1)", y.drawn(60, 1), 60);
        CHECK.due("61 went", y.now(0), 61);
        pass(y, 338);
        CHECK.due("399", y.now(0), 399);
        CHECK.due("one is left", y.drawn(2, 1), 1);
        was = Check.all(y);
        CHECK.due("none is left", y.drawn(1, 1), 0);
        CHECK.due("none is left", y.drawn(60, 7), 0);
        CHECK.due("not as told still", y.drawn(61, 7), -1);
        CHECK.yes("nobody is sent or served then", was.equals(Check.all(y)));
    }

    /** One CHILD on a FLOOR, ahead of which some HOURS went: it has enough some 20 HOURS on. */
    private static DumbwaiterYoung oneChild(int hoursAhead) {
        StringBuilder text = new StringBuilder("child a 1;law music 20;rope 500;grow 48;");
        for (int i = 0; i < 8; i++) {
            text.append("floor f").append((char) ('a' + i)).append(" music 1;");
        }
        DumbwaiterYoung y = Check.with(text.toString());
        pass(y, hoursAhead);
        y.send(0, 1);
        return y;
    }

    /** In which HOUR (from 1) the CHILD is served by a seed, by single calls; 99, if it is not. */
    private static int servedIn(int hoursAhead, int seed) {
        DumbwaiterYoung y = oneChild(hoursAhead);
        x = seed & 0xffffffffL;
        for (int hour = 1; hour <= 40 && y.now(0) < 400; hour++) {
            drawHour(y);
            if (Check.child(y, 0, 0) == -1) {
                return hour;
            }
        }
        return 99;
    }

    private static int seedFor(int hoursAhead, int hour) {
        for (int seed = 0; seed < 20_000; seed++) {
            if (servedIn(hoursAhead, seed) == hour) {
                return seed;
            }
        }
        throw new IllegalStateException("no seed for HOUR " + hour);
    }

    private static void odds() {
        CHECK.about(35, "by how many a CHILD is served behind 30 HOURS DRAWN from now on; NONE: no such ones.");
        DumbwaiterYoung y = oneChild(0);
        String was = Check.all(y);
        CHECK.due("served in HOUR 29", y.odds(0, 1, seedFor(0, 29)), 1);
        CHECK.due("served in HOUR 30", y.odds(0, 1, seedFor(0, 30)), 1);
        CHECK.due("served in HOUR 31", y.odds(0, 1, seedFor(0, 31)), 0);
        CHECK.yes("nothing changed", was.equals(Check.all(y)));
        CHECK.due("nothing to undo but the sending", y.undo(), 0);
        y = oneChild(370);
        CHECK.due("30 are left: in HOUR 30", y.odds(0, 1, seedFor(370, 30)), 1);
        y = oneChild(371);
        CHECK.due("29 are left: in HOUR 29", y.odds(0, 1, seedFor(371, 29)), 1);
        CHECK.due("29 are left: what would be in HOUR 30", y.odds(0, 1, seedFor(370, 30)), 0);
        y = Check.with("child a 1;child b 1;");
        y.serve(0);
        CHECK.due("it is served now", y.odds(0, 30, 1), 30);
        CHECK.due("it is served now, of one", y.odds(0, 1, 1), 1);
        pass(y, 400);
        CHECK.due("none is left", y.odds(1, 30, 1), 0);
        CHECK.due("none is left, it is served now", y.odds(0, 30, 1), 30);
        seeds();
    }

    private static void seeds() {
        CHECK.about(35, "Of n (1 to 30) seeds x, x and 1, ..");
        DumbwaiterYoung z = Check.with("child a 1;child b 1;law music 1;");
        int[][] none = {{0, 0}, {0, -1}, {0, 31}, {1, 0}, {1, 31}, {-1, 1}, {2, 1}, {LEAST, 1}, {MOST, 1}, {0, LEAST}, {0, MOST}};
        for (int[] args : none) {
            CHECK.due("outside: odds(" + args[0] + ", " + args[1] + ", 1)", z.odds(args[0], args[1], 1), -1);
        }
        CHECK.due("inside: of 1", z.odds(0, 1, 1), 0);
        CHECK.due("inside: of 30, the last CHILD", z.odds(1, 30, 1), 0);
        DumbwaiterYoung w = oneChild(0);
        int[] seeds = {0, -3, MOST - 7, LEAST};
        for (int seed : seeds) {
            int served = 0;
            for (int n = 1; n <= 30; n++) {
                served += servedIn(0, seed + n - 1) <= 30 ? 1 : 0;
                CHECK.due("odds(0, " + n + ", " + seed + ")", w.odds(0, n, seed), served);
            }
        }
    }

    public static void main(String[] args) {
        covers();
        draws();
        drawn();
        odds();
        CHECK.finish();
    }
}
