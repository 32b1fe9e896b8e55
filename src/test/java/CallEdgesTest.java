/** Edges of a new object, the tape, what is told of a TOWER, images (promises 1 to 3, 6 to 11, 40 to 42): each case names the document's words. */
public final class CallEdgesTest {
    private static final Check CHECK = new Check("CallEdgesTest");
    private static final int LEAST = Integer.MIN_VALUE;
    private static final int MOST = Integer.MAX_VALUE;

    private static void newObject() {
        CHECK.about(1, "An empty TOWER; an empty tape.");
        DumbwaiterYoung x = new DumbwaiterYoung();
        CHECK.due("FLOORS", x.count(0), 0);
        CHECK.due("CHILDREN", x.count(1), 0);
        CHECK.due("UNCLES", x.count(2), 0);
        CHECK.due("'rope' without", x.count(3), 100);
        CHECK.due("'grow' without", x.count(4), 6);
        CHECK.due("the tape", x.count(5), 0);
        for (int what = 0; what <= 7; what++) {
            CHECK.due("now(" + what + ")", x.now(what), 0);
        }
        for (int g = 0; g < 4; g++) {
            CHECK.due("law(" + g + ")", x.law(g), 0);
        }
        nobodyIn(x);
        CHECK.due("HOURS go by all the same", x.hours(60), 60);
        CHECK.due("HOURS are drawn all the same", x.drawn(60, 1), 60);
        CHECK.due("no pairs", x.bargain(), 0);
    }

    private static void nobodyIn(DumbwaiterYoung x) {
        CHECK.due("child(0, 0)", Check.child(x, 0, 0), Check.THROWN);
        CHECK.due("has(0, 0)", x.has(0, 0), -1);
        CHECK.due("floor(0, 0)", x.floor(0, 0), -1);
        CHECK.due("floor(1, 0)", x.floor(1, 0), -1);
        CHECK.due("uncle(0, 0)", x.uncle(0, 0), -1);
        CHECK.due("send(0, 0)", x.send(0, 0), -1);
        CHECK.due("hang(0)", x.hang(0), -1);
        CHECK.due("take(0)", x.take(0), -1);
        CHECK.due("serve(0)", x.serve(0), -1);
        CHECK.due("back(0)", x.back(0), -1);
        CHECK.due("when(0)", x.when(0), -1);
        CHECK.due("plan(0)", x.plan(0), -1);
        CHECK.due("hung(0)", x.hung(0), -1);
        CHECK.due("holds(0, 0)", x.holds(0, 0), -1);
        CHECK.due("holds(0, 1)", x.holds(0, 1), -1);
        CHECK.due("web(0)", x.web(0), -1);
        CHECK.due("cover(0)", x.cover(0), -1);
        CHECK.due("odds(0, 1, 1)", x.odds(0, 1, 1), -1);
        CHECK.due("undo()", x.undo(), -1);
        CHECK.due("said(-1)", x.said(-1), -1);
    }

    private static void feed() {
        CHECK.about(2, "Twenty bytes come behind the tape, of each number the highest first: how many it has");
        DumbwaiterYoung x = new DumbwaiterYoung();
        CHECK.due("the first twenty", x.feed(0x726f7065, 0x20313233, 0x3b67726f, 0x77203132, 0x3b202020), 20);
        CHECK.due("count(5)", x.count(5), 20);
        CHECK.due("two LINES by them", x.tower(), 2);
        CHECK.due("'rope'", x.count(3), 123);
        CHECK.due("'grow'", x.count(4), 12);
        x.feed(0x80000000, 0x7f000000, 0xff000000, 0x01000000, 0);
        x.end(1);
        CHECK.due("a byte of 128 is not below 0: it is no row's", x.been(1), -1);
        x.feed(0xffffffff, 0, 0, 0, 0);
        x.end(4);
        CHECK.due("bytes of 255 are 255 each, not -1", x.been(1), 0);
        CHECK.about(2, "NONE, and none come, if it would have more than 940");
        for (int i = 1; i <= 46; i++) {
            x.feed(i, i, i, i, i);
        }
        CHECK.due("920", x.count(5), 920);
        CHECK.due("940 is not more", x.feed(1, 2, 3, 4, 5), 940);
        CHECK.due("960 is more", x.feed(1, 2, 3, 4, 5), -1);
        CHECK.due("none came", x.count(5), 940);
        x.end(921);
        CHECK.due("941 is more", x.feed(1, 2, 3, 4, 5), -1);
        CHECK.due("none came", x.count(5), 921);
        x.end(920);
        CHECK.due("940 is not", x.feed(1, 2, 3, 4, 5), 940);
    }

    private static void end() {
        CHECK.about(3, "The tape has its first n bytes alone: true; false, if it has not so many, or n is below 0.");
        DumbwaiterYoung x = new DumbwaiterYoung();
        CHECK.yes("0 of an empty one", x.end(0));
        CHECK.no("1 of an empty one", x.end(1));
        x.feed(0x67726f77, 0x20313230, 0x3b3b3b3b, 0x20202020, 0x20202020);
        CHECK.yes("all", x.end(20));
        CHECK.no("one more", x.end(21));
        CHECK.no("below 0", x.end(-1));
        CHECK.no("the least", x.end(LEAST));
        CHECK.no("the greatest", x.end(MOST));
        CHECK.due("as many as it had", x.count(5), 20);
        CHECK.yes("7 of them", x.end(7));
        CHECK.due("7", x.count(5), 7);
        CHECK.no("8 are gone", x.end(8));
        CHECK.due("what comes is behind them", x.feed(0x3b202020, 0x20202020, 0x20202020, 0x20202020, 0x20202020), 27);
        CHECK.due("'grow 12' and the end that came", x.tower(), 1);
        CHECK.due("12, not 120", x.count(4), 12);
        x.feed(0x67726f77, 0x20303b20, 0x20202020, 0x20202020, 0x20202020);
        CHECK.yes("none of them", x.end(0));
        CHECK.due("an empty tape", x.tower(), 0);
    }

    private static void child() {
        CHECK.about(6, "NoSuchElementException: no such ones.");
        DumbwaiterYoung x = Check.with(Check.HOUSE);
        int[] first = {0, 6, 0, 0, 0, 3, 0};
        int[] last = {0, 3, 0, 0, 0, 3, 0};
        for (int what = 0; what <= 6; what++) {
            CHECK.due("inside: child(0, " + what + ")", Check.child(x, 0, what), first[what]);
            CHECK.due("inside: child(2, " + what + ")", Check.child(x, 2, what), last[what]);
        }
        int[] noChild = {-1, 3, 6, LEAST, MOST};
        int[] noWhat = {-1, 7, LEAST, MOST};
        for (int c : noChild) {
            CHECK.due("outside: child(" + c + ", 0)", Check.child(x, c, 0), Check.THROWN);
            CHECK.due("outside: child(" + c + ", 6)", Check.child(x, c, 6), Check.THROWN);
        }
        for (int what : noWhat) {
            CHECK.due("outside: child(0, " + what + ")", Check.child(x, 0, what), Check.THROWN);
            CHECK.due("outside: child(2, " + what + ")", Check.child(x, 2, what), Check.THROWN);
            CHECK.due("outside: child(3, " + what + ")", Check.child(x, 3, what), Check.THROWN);
        }
        CHECK.about(6, "A call that throws changes nothing.");
        x.send(0, 1);
        x.hours(2);
        x.feed(1, 2, 3, 4, 5);
        String was = Check.all(x);
        Check.child(x, 3, 0);
        Check.child(x, 0, 7);
        CHECK.yes("all is so", was.equals(Check.all(x)));
        CHECK.due("the tape", x.count(5), 20);
        CHECK.due("what can be undone", x.undo(), 1);
        CHECK.about(6, "0 where it is (NONE: served)");
        DumbwaiterYoung y = Check.with("floor a music 1;child c 1;child d 1;");
        CHECK.due("the cellar", Check.child(y, 0, 0), 0);
        y.send(0, 1);
        CHECK.due("a FLOOR", Check.child(y, 0, 0), 1);
        y.serve(0);
        CHECK.due("served", Check.child(y, 0, 0), -1);
        CHECK.due("a served one is a CHILD still", Check.child(y, 0, 1), 1);
    }

    private static void lacksAndNeighbours() {
        CHECK.about(6, "It LACKS a GIFT of which it has less than the law tells.");
        DumbwaiterYoung x = Check.with("floor a music 1;floor b letters 1;child c 1;law music 3;law letters 1;");
        CHECK.due("0 of 3 and 0 of 1", Check.child(x, 0, 5), 10);
        x.send(0, 1);
        x.hours(2);
        CHECK.due("2 of 3", Check.child(x, 0, 5), 10);
        x.hours(1);
        CHECK.due("3 of 3", Check.child(x, 0, 5), 8);
        x.hours(1);
        CHECK.due("4 of 3", Check.child(x, 0, 5), 8);
        x.send(0, 2);
        x.hours(1);
        CHECK.due("nothing", Check.child(x, 0, 5), 0);
        CHECK.due("without a law nothing of it is enough", Check.child(Check.with("child c 1;"), 0, 5), 0);
        CHECK.about(6, "Two on FLOORS next to one another are NEIGHBOURS.");
        DumbwaiterYoung y = Check.with("floor a music 1;floor b music 1;floor c music 1;child p 1;child q 1;child r 1;");
        CHECK.due("all in the cellar", Check.child(y, 0, 6), 0);
        y.send(0, 1);
        CHECK.due("the cellar is no FLOOR", Check.child(y, 0, 6) + Check.child(y, 1, 6), 0);
        y.send(1, 3);
        CHECK.due("two off", Check.child(y, 0, 6) + Check.child(y, 1, 6), 0);
        y.send(2, 2);
        CHECK.due("above", Check.child(y, 0, 6), 4);
        CHECK.due("below", Check.child(y, 1, 6), 4);
        CHECK.due("both", Check.child(y, 2, 6), 3);
        y.serve(2);
        CHECK.due("a served one is nowhere", Check.child(y, 0, 6) + Check.child(y, 1, 6) + Check.child(y, 2, 6), 0);
        DumbwaiterYoung z = Check.with("floor a music 1;child p 1;child q 1;");
        z.serve(0);
        CHECK.due("served is not next to the cellar", Check.child(z, 0, 6) + Check.child(z, 1, 6), 0);
    }

    private static void has() {
        CHECK.about(7, "How much of a GIFT (0 to 3) a CHILD has; NONE: no such ones.");
        DumbwaiterYoung x = Check.with("floor a manners 2;floor b letters 3;child c 1;child d 1;");
        x.send(0, 1);
        x.send(1, 2);
        x.hours(1);
        CHECK.due("inside: has(0, 0)", x.has(0, 0), 2);
        CHECK.due("inside: has(0, 3)", x.has(0, 3), 0);
        CHECK.due("inside: has(1, 0)", x.has(1, 0), 1);
        CHECK.due("inside: has(1, 3)", x.has(1, 3), 3);
        int[][] none = {{-1, 0}, {2, 0}, {0, -1}, {0, 4}, {1, -1}, {1, 4}, {-1, 4}, {LEAST, 0}, {MOST, 0}, {0, LEAST}, {0, MOST}};
        for (int[] args : none) {
            CHECK.due("outside: has(" + args[0] + ", " + args[1] + ")", x.has(args[0], args[1]), -1);
        }
    }

    private static void floor() {
        CHECK.about(8, "Of a FLOOR (from 1): 0 its GIFT, 1 how much, 2 cold (1, 0), 3 the CHILD on it (NONE). NONE, too: no such ones.");
        DumbwaiterYoung x = Check.with("floor a manners 2;floor b letters 3 cold;child c 1;");
        int[][] due = {{0, 2, 0, -1}, {3, 3, 1, 0}};
        x.send(0, 2);
        for (int f = 1; f <= 2; f++) {
            for (int what = 0; what <= 3; what++) {
                CHECK.due("inside: floor(" + f + ", " + what + ")", x.floor(f, what), due[f - 1][what]);
            }
        }
        int[][] none = {{0, 0}, {0, 3}, {3, 0}, {-1, 0}, {1, -1}, {1, 4}, {2, -1}, {2, 4}, {LEAST, 0}, {MOST, 0}, {1, LEAST}, {1, MOST}};
        for (int[] args : none) {
            CHECK.due("outside: floor(" + args[0] + ", " + args[1] + ")", x.floor(args[0], args[1]), -1);
        }
        x.serve(0);
        CHECK.due("the one on it is served", x.floor(2, 3), -1);
    }

    private static void uncleAndLaw() {
        CHECK.about(9, "Of an UNCLE: 0 WEIGHT, 1 whether he hangs (1, 0). NONE: no such ones.");
        DumbwaiterYoung x = Check.with("uncle a 1;uncle b 20;law manners 1;law letters 60;");
        x.hang(1);
        CHECK.due("inside: uncle(0, 0)", x.uncle(0, 0), 1);
        CHECK.due("inside: uncle(0, 1)", x.uncle(0, 1), 0);
        CHECK.due("inside: uncle(1, 0)", x.uncle(1, 0), 20);
        CHECK.due("inside: uncle(1, 1)", x.uncle(1, 1), 1);
        int[][] none = {{-1, 0}, {2, 0}, {0, -1}, {0, 2}, {1, -1}, {1, 2}, {LEAST, 0}, {MOST, 0}, {0, LEAST}, {0, MOST}};
        for (int[] args : none) {
            CHECK.due("outside: uncle(" + args[0] + ", " + args[1] + ")", x.uncle(args[0], args[1]), -1);
        }
        CHECK.about(10, "What the law tells of a GIFT; NONE: no such one.");
        CHECK.due("inside: law(0)", x.law(0), 1);
        CHECK.due("inside: law(1), 0 without", x.law(1), 0);
        CHECK.due("inside: law(3)", x.law(3), 60);
        int[] noGift = {-1, 4, LEAST, MOST};
        for (int g : noGift) {
            CHECK.due("outside: law(" + g + ")", x.law(g), -1);
        }
    }

    private static void now() {
        CHECK.about(11, "0 the HOUR, 1 the WEAR, 2 ropes that RAN so far, 3 the BALANCE, 4 who is served, 5 who LACKS nothing and is not served, "
            + "6 who is on a FLOOR, as bits each, 7 FLOORS passed so far. NONE for another what.");
        DumbwaiterYoung x = Check.with("floor a music 3;floor b faith 1;child p 9;child q 1;child r 2;child s 3;uncle u 1;uncle v 3;law music 3;rope 10;");
        x.hang(0);
        x.send(0, 2);
        x.send(1, 1);
        x.hours(1);
        x.serve(1);
        x.send(2, 1);
        x.send(3, 2);
        x.hours(1);
        int[] due = {2, 5, 1, 1, 2, 4, 12, 6};
        for (int what = 0; what <= 7; what++) {
            CHECK.due("inside: now(" + what + ")", x.now(what), due[what]);
        }
        int[] none = {-1, 8, LEAST, MOST};
        for (int what : none) {
            CHECK.due("outside: now(" + what + ")", x.now(what), -1);
        }
        bits();
        CHECK.about(11, "BALANCE: WEIGHTS of all UNCLES that hang.");
        x.hang(1);
        CHECK.due("all", x.now(3), 4);
        x.take(0);
        CHECK.due("one", x.now(3), 3);
        x.take(1);
        CHECK.due("none", x.now(3), 0);
    }

    private static void bits() {
        CHECK.about(11, "4 who is served, 5 who LACKS nothing and is not served, 6 who is on a FLOOR, as bits each");
        DumbwaiterYoung x = Check.with("floor a music 1;floor b music 1;floor c music 1;floor d music 1;floor e music 1;floor f music 1;"
            + "child p 1;child q 1;child r 1;child s 1;child t 1;child u 1;rope 500;");
        CHECK.due("all are ready", x.now(5), 63);
        for (int c = 0; c < 6; c++) {
            x.send(c, c + 1);
            CHECK.due("on a FLOOR, up to " + c, x.now(6), (2 << c) - 1);
        }
        for (int c = 0; c < 6; c++) {
            x.serve(c);
            CHECK.due("served, up to " + c, x.now(4), (2 << c) - 1);
            CHECK.due("ready still, behind " + c, x.now(5), 64 - (2 << c));
            CHECK.due("on a FLOOR still, behind " + c, x.now(6), 64 - (2 << c));
        }
    }

    private static void images() {
        CHECK.about(40, "TOWER, all that is so and the SENTENCE are kept in place k (0, 1): true; false: no such one.");
        DumbwaiterYoung x = Check.with(Check.HOUSE);
        int[] none = {-1, 2, LEAST, MOST};
        for (int k : none) {
            CHECK.no("outside: image(" + k + ")", x.image(k));
        }
        CHECK.about(41, "true; false: no such one, or nothing is kept there.");
        x.hang(0);
        for (int k : none) {
            CHECK.no("outside: restore(" + k + ")", x.restore(k));
        }
        CHECK.no("nothing is kept in 0", x.restore(0));
        CHECK.no("nothing is kept in 1", x.restore(1));
        CHECK.due("false leaves what can be undone", x.undo(), 0);
        CHECK.yes("inside: image(1)", x.image(1));
        CHECK.no("nothing is kept in 0 still", x.restore(0));
        CHECK.yes("inside: restore(1)", x.restore(1));
        x.hang(1);
        CHECK.yes("inside: image(0)", x.image(0));
        CHECK.due("image() leaves what can be undone", x.undo(), 0);
        CHECK.yes("inside: restore(0)", x.restore(0));
        CHECK.due("as kept in 0", x.now(3), 5);
        CHECK.yes("inside: restore(1)", x.restore(1));
        CHECK.due("as kept in 1", x.now(3), 0);
        CHECK.about(41, "(the tape, and what other calls told last, stays; nothing can be undone)");
        x.hang(0);
        x.feed(1, 2, 3, 4, 5);
        x.hung(1);
        int hanging = x.hanging();
        x.restore(1);
        CHECK.due("the tape stays", x.count(5), 20);
        CHECK.due("what hung() told stays", x.hanging(), hanging);
        CHECK.due("nothing can be undone", x.undo(), -1);
        sentences(x);
    }

    private static void sentences(DumbwaiterYoung x) {
        CHECK.about(41, "They are as kept in place k");
        Check.sentence(x, "number>0");
        x.image(0);
        Check.sentence(x, "number>1");
        x.image(1);
        Check.tower(x, "");
        CHECK.yes("restore(0)", x.restore(0));
        CHECK.due("the SENTENCE of 0", x.said(-1), 2);
        CHECK.yes("restore(1)", x.restore(1));
        CHECK.due("the SENTENCE of 1", x.said(-1), 1);
        CHECK.due("the TOWER of 1", x.count(0) * 100 + x.count(1) * 10 + x.count(2), 432);
        Check.tower(x, "");
        x.image(1);
        x.restore(0);
        x.restore(1);
        CHECK.due("no SENTENCE was kept", x.said(-1), -1);
        CHECK.due("an empty TOWER was", x.count(0) + x.count(1) + x.count(2), 0);
    }

    private static void count() {
        CHECK.about(42, "0 FLOORS, 1 CHILDREN, 2 UNCLES, 3 'rope', 4 'grow', 5 bytes of the tape. NONE for another what.");
        DumbwaiterYoung x = Check.with(Check.HOUSE);
        x.feed(1, 2, 3, 4, 5);
        x.end(13);
        int[] due = {4, 3, 2, 40, 4, 13};
        for (int what = 0; what <= 5; what++) {
            CHECK.due("inside: count(" + what + ")", x.count(what), due[what]);
        }
        int[] none = {-1, 6, LEAST, MOST};
        for (int what : none) {
            CHECK.due("outside: count(" + what + ")", x.count(what), -1);
        }
    }

    private static void manyCalls() {
        CHECK.about(1, "An object is used for at most 512 calls after it has been made");
        DumbwaiterYoung x = new DumbwaiterYoung();
        int calls = 0;
        for (; calls < 45; calls++) {
            x.feed(0x20202020, 0x20202020, 0x20202020, 0x20202020, 0x20202020);
        }
        CHECK.due("call 46", x.tower(), 0);
        for (calls = 46; calls < 510; calls++) {
            x.image(calls % 2);
        }
        CHECK.yes("call 511", x.restore(1));
        CHECK.due("call 512", x.count(3), 100);
    }

    public static void main(String[] args) {
        newObject();
        feed();
        end();
        child();
        lacksAndNeighbours();
        has();
        floor();
        uncleAndLaw();
        now();
        images();
        count();
        manyCalls();
        CHECK.finish();
    }
}
