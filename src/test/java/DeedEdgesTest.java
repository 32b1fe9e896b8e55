/** Edges of deeds and HOURS (==== 2), promises 12 to 18: each case names the words of the document that it is about. */
public final class DeedEdgesTest {
    private static final Check CHECK = new Check("DeedEdgesTest");
    private static final int LEAST = Integer.MIN_VALUE;
    private static final int MOST = Integer.MAX_VALUE;
    private static final String EIGHT = "floor a music 1;floor b music 1;floor c music 1;floor d music 1;"
        + "floor e music 1;floor f music 1;floor g music 1;floor h music 1;";

    /** Lets as many HOURS go as are told. */
    private static void pass(DumbwaiterYoung x, int hours) {
        for (int left = hours; left > 0; left -= 60) {
            x.hours(Math.min(left, 60));
        }
    }

    private static void noSuchOnes() {
        DumbwaiterYoung x = Check.with("floor f music 1;floor g music 1;child c 1;child d 1;uncle u 1;uncle v 1;");
        String was = Check.all(x);
        CHECK.about(12, "A CHILD is SENT to a FLOOR (0: the cellar): 0, or why not; NONE: no such ones.");
        int[][] none = {{-1, 0}, {-1, 1}, {2, 0}, {2, 1}, {0, -1}, {0, 3}, {1, 3}, {LEAST, 1}, {MOST, 1}, {0, LEAST}, {0, MOST}};
        for (int[] args : none) {
            CHECK.due("outside: send(" + args[0] + ", " + args[1] + ")", x.send(args[0], args[1]), -1);
        }
        int[] nobody = {-1, 2, LEAST, MOST};
        for (int no : nobody) {
            CHECK.about(13, "An UNCLE is HUNG: 0, or why not; NONE: no such one.");
            CHECK.due("outside: hang(" + no + ")", x.hang(no), -1);
            CHECK.about(14, "He is TAKEN down: 0, or why not; NONE: no such one.");
            CHECK.due("outside: take(" + no + ")", x.take(no), -1);
            CHECK.about(15, "A CHILD is SERVED: 0, or why not; NONE: no such one.");
            CHECK.due("outside: serve(" + no + ")", x.serve(no), -1);
            CHECK.about(16, "It comes BACK: 0, or why not; NONE: no such one.");
            CHECK.due("outside: back(" + no + ")", x.back(no), -1);
        }
        CHECK.about(12, "NONE: no such ones.");
        CHECK.yes("nothing changed", was.equals(Check.all(x)));
        CHECK.due("nothing to undo", x.undo(), -1);
        CHECK.due("inside: send(0, 0), it is there", x.send(0, 0), 2);
        CHECK.due("inside: send(1, 2), the last of both", x.send(1, 2), 0);
        CHECK.due("inside: send(0, 1), the first of both", x.send(0, 1), 0);
        CHECK.about(13, "NONE: no such one.");
        CHECK.due("inside: the first", x.hang(0), 0);
        CHECK.due("inside: the last", x.hang(1), 0);
        CHECK.due("inside: serve(), the first", x.serve(0), 0);
        CHECK.due("inside: serve(), the last", x.serve(1), 0);
        CHECK.due("inside: back(), the first", x.back(0), 0);
        CHECK.due("inside: back(), the last", x.back(1), 0);
        CHECK.due("inside: take(), the first", x.take(0), 0);
        CHECK.due("inside: take(), the last", x.take(1), 0);
    }

    private static void whyNotSent() {
        CHECK.about(12, "To SEND a CHILD: why not, the least: 1 it is served; 2 it is there; 3 another one is there (of a FLOOR).");
        DumbwaiterYoung x = Check.with("floor f music 1;floor g music 1;child c 1;child d 1;child e 1;");
        CHECK.due("in the cellar, to the cellar, where others are", x.send(0, 0), 2);
        CHECK.due("to a FLOOR where nobody is", x.send(0, 1), 0);
        CHECK.due("it is there", x.send(0, 1), 2);
        CHECK.due("another one is there", x.send(1, 1), 3);
        CHECK.due("the next FLOOR", x.send(1, 2), 0);
        CHECK.due("another one is there", x.send(1, 1), 3);
        CHECK.due("the cellar is no FLOOR: another one may be there", x.send(1, 0), 0);
        CHECK.due("served", x.serve(1), 0);
        CHECK.due("served, to the cellar", x.send(1, 0), 1);
        CHECK.due("served, to a FLOOR where nobody is", x.send(1, 2), 1);
        CHECK.due("served, and another one is there: the least", x.send(1, 1), 1);
        CHECK.due("a FLOOR is free, once its CHILD is served", x.serve(0), 0);
        CHECK.due("free", x.send(2, 1), 0);
    }

    private static void wear() {
        CHECK.about(12, "It passes as many FLOORS as the one is off the other; the WEAR of the rope is more, for each of them, by how much its WEIGHT and the BALANCE differ.");
        DumbwaiterYoung x = Check.with(EIGHT + "child p 5;uncle u 3;uncle v 6;rope 500;");
        x.send(0, 1);
        CHECK.due("1 FLOOR of 5", x.now(1) * 100 + x.now(7), 501);
        x.send(0, 8);
        CHECK.due("7 FLOORS of 5", x.now(1) * 100 + x.now(7), 4008);
        x.send(0, 0);
        CHECK.due("8 FLOORS of 5, down", x.now(1) * 100 + x.now(7), 8016);
        x.hang(0);
        x.send(0, 2);
        CHECK.due("2 FLOORS of 5 less 3", x.now(1) * 100 + x.now(7), 8418);
        x.hang(1);
        x.send(0, 1);
        CHECK.due("1 FLOOR of 9 less 5", x.now(1) * 100 + x.now(7), 8819);
        DumbwaiterYoung y = Check.with(EIGHT + "child p 5;uncle u 5;rope 10;");
        y.hang(0);
        y.send(0, 8);
        CHECK.due("in BALANCE none", y.now(1) * 100 + y.now(7), 8);
        CHECK.due("and it is there", Check.child(y, 0, 0), 8);
    }

    private static void runs() {
        CHECK.about(12, "If the WEAR is as much as 'rope' tells then, or more, the rope RUNS");
        int[] ropes = {21, 20, 19};
        int[] runs = {0, 1, 1};
        for (int i = 0; i < ropes.length; i++) {
            DumbwaiterYoung x = Check.with(EIGHT + "child p 10;rope " + ropes[i] + ";");
            CHECK.due("sent, the WEAR being 20: rope " + ropes[i], x.send(0, 2), 0);
            CHECK.due("how many RAN: rope " + ropes[i], x.now(2), runs[i]);
            CHECK.due("the WEAR: rope " + ropes[i], x.now(1), runs[i] == 1 ? 0 : 20);
            CHECK.due("where it is: rope " + ropes[i], Check.child(x, 0, 0), runs[i] == 1 ? 0 : 2);
            CHECK.due("how often it fell: rope " + ropes[i], Check.child(x, 0, 4), runs[i]);
            CHECK.due("its WEIGHT: rope " + ropes[i], Check.child(x, 0, 1), 10 + 2 * runs[i]);
            CHECK.due("FLOORS passed, though it fell: rope " + ropes[i], x.now(7), 2);
        }
        DumbwaiterYoung x = Check.with(EIGHT + "child p 10;child q 1;rope 10;");
        x.send(1, 8);
        x.send(1, 7);
        CHECK.due("8 and 1 are 9", x.now(1) * 10 + x.now(2), 90);
        x.send(1, 6);
        CHECK.due("10 of many sendings", x.now(1) * 10 + x.now(2), 1);
        CHECK.due("from a FLOOR into the cellar", Check.child(x, 1, 0), 0);
        x.send(0, 1);
        CHECK.due("a new rope each time", x.now(1) * 10 + x.now(2), 2);
        CHECK.due("who fell", Check.child(x, 0, 4) * 10 + Check.child(x, 1, 4), 11);
        CHECK.about(12, "has fallen once more, its WEIGHT is 2 more (60 at most)");
        heaviest(20, 20);
        heaviest(19, 21);
    }

    private static void heaviest(int weight, int falls) {
        DumbwaiterYoung x = Check.with("floor a music 1;child c " + weight + ";rope 10;grow 48;");
        for (int i = 1; i <= falls + 1; i++) {
            x.send(0, 1);
            CHECK.due("from " + weight + ", WEIGHT behind fall " + i, Check.child(x, 0, 1), Math.min(60, weight + 2 * i));
            CHECK.due("falls", Check.child(x, 0, 4), i);
        }
    }

    private static void hangAndTake() {
        DumbwaiterYoung x = Check.with("uncle u 1;uncle v 2;uncle w 3;uncle y 4;uncle z 5;");
        for (int u = 0; u < 5; u++) {
            CHECK.about(14, "To TAKE him: 1 he does not.");
            CHECK.due("take(" + u + ")", x.take(u), 1);
            CHECK.about(13, "To HANG an UNCLE: 1 he hangs.");
            CHECK.due("hang(" + u + ")", x.hang(u), 0);
            CHECK.due("hang(" + u + ") again", x.hang(u), 1);
            CHECK.due("BALANCE", x.now(3), (u + 1) * (u + 2) / 2);
        }
        CHECK.about(14, "To TAKE him: 1 he does not.");
        for (int u = 4; u >= 0; u--) {
            CHECK.due("take(" + u + ")", x.take(u), 0);
            CHECK.due("take(" + u + ") again", x.take(u), 1);
            CHECK.due("BALANCE", x.now(3), u * (u + 1) / 2);
        }
    }

    private static void serveAndBack() {
        CHECK.about(15, "To SERVE a CHILD: 1 it is served; 2 it LACKS something.");
        DumbwaiterYoung x = Check.with("floor a music 1 cold;floor b letters 9;child c 1;child d 1;law music 2;grow 48;");
        CHECK.due("0 of 2", x.serve(0), 2);
        x.send(0, 1);
        x.hours(1);
        CHECK.due("1 of 2", x.serve(0), 2);
        x.hours(1);
        CHECK.due("2 of 2", x.serve(0), 0);
        CHECK.due("again", x.serve(0), 1);
        CHECK.about(16, "To have it BACK: 1 it is not served: it is in the cellar, has nothing of any GIFT, its SHYNESS is 0.");
        CHECK.due("one in the cellar", x.back(1), 1);
        x.send(1, 1);
        CHECK.due("one on a FLOOR", x.back(1), 1);
        CHECK.due("still there", Check.child(x, 1, 0), 1);
        x.send(1, 0);
        CHECK.due("a served one", x.back(0), 0);
        CHECK.due("again", x.back(0), 1);
        CHECK.due("in the cellar", Check.child(x, 0, 0), 0);
        CHECK.due("has nothing", x.has(0, 0) + x.has(0, 1) + x.has(0, 2) + x.has(0, 3), 0);
        CHECK.due("SHYNESS", Check.child(x, 0, 3), 0);
        CHECK.due("it LACKS again", x.serve(0), 2);
        backFrom();
    }

    private static void backFrom() {
        DumbwaiterYoung x = Check.with("floor a manners 1 cold;floor b music 1 cold;floor c faith 1 cold;floor d letters 1 cold;child p 1;child q 1;rope 10;grow 3;");
        for (int f = 1; f <= 4; f++) {
            x.send(0, f);
            x.hours(1);
        }
        CHECK.due("of each GIFT", x.has(0, 0) * 1000 + x.has(0, 1) * 100 + x.has(0, 2) * 10 + x.has(0, 3), 1111);
        CHECK.due("shy", Check.child(x, 0, 3), 4);
        x.serve(0);
        x.back(0);
        CHECK.due("nothing of each", x.has(0, 0) * 1000 + x.has(0, 1) * 100 + x.has(0, 2) * 10 + x.has(0, 3), 0);
        CHECK.due("AGE stays", Check.child(x, 0, 2), 4);
        CHECK.due("WEIGHT stays", Check.child(x, 0, 1), 2);
        CHECK.due("falls stay", Check.child(x, 0, 4), 0);
        othersStay();
    }

    private static void othersStay() {
        DumbwaiterYoung x = Check.with("floor a manners 1 cold;floor b letters 1 cold;child p 1;child q 1;child r 1;child s 1;child t 1;child u 1;rope 500;");
        for (int c = 0; c < 6; c++) {
            x.send(c, 1);
            x.hours(1);
            x.send(c, 2);
            x.hours(1);
            x.send(c, 0);
            x.serve(c);
        }
        for (int c = 0; c < 6; c++) {
            CHECK.due("back(" + c + ")", x.back(c), 0);
            for (int other = 0; other < 6; other++) {
                int left = other > c ? 112 : 0;
                CHECK.due("back(" + c + "), what " + other + " has", x.has(other, 0) * 100 + x.has(other, 3) * 10 + Check.child(x, other, 3), left);
            }
        }
    }

    private static void hours() {
        CHECK.about(17, "n (1 to 60) HOURS go by: how many did; NONE: not as told.");
        DumbwaiterYoung x = Check.with("floor f music 1;child c 1;");
        int[] none = {0, -1, 61, LEAST, MOST};
        for (int n : none) {
            CHECK.due("outside: hours(" + n + ")", x.hours(n), -1);
        }
        CHECK.due("none went", x.now(0), 0);
        CHECK.due("nothing to undo", x.undo(), -1);
        CHECK.due("inside: hours(1)", x.hours(1), 1);
        CHECK.due("inside: hours(60)", x.hours(60), 60);
        CHECK.due("61 went", x.now(0), 61);
        CHECK.about(17, "An HOUR (0 to 399; 400: all are over) goes");
        pass(x, 338);
        CHECK.due("399", x.now(0), 399);
        CHECK.due("the last goes, no more", x.hours(2), 1);
        CHECK.due("400", x.now(0), 400);
        String was = Check.all(x);
        CHECK.due("none is left", x.hours(1), 0);
        CHECK.due("none is left", x.hours(60), 0);
        CHECK.due("still not as told", x.hours(61), -1);
        CHECK.due("still not as told", x.hours(0), -1);
        CHECK.yes("nothing changes then", was.equals(Check.all(x)));
        CHECK.due("AGE", Check.child(x, 0, 2), 400);
        DumbwaiterYoung y = Check.with("child c 1;");
        pass(y, 340);
        CHECK.due("just as many are left", y.hours(60), 60);
        CHECK.due("400", y.now(0), 400);
    }

    private static void mostOfAGift() {
        CHECK.about(17, "each CHILD on a FLOOR has N more of its GIFT (99 at most)");
        DumbwaiterYoung x = Check.with("floor a music 1;floor b faith 9;floor c letters 7;child p 1;child q 1;child r 1;rope 500;");
        x.send(0, 1);
        x.send(1, 3);
        pass(x, 14);
        CHECK.due("14 of 7 are 98", x.has(1, 3), 98);
        x.hours(1);
        CHECK.due("105 are 99", x.has(1, 3), 99);
        x.hours(1);
        CHECK.due("99 stay 99", x.has(1, 3), 99);
        pass(x, 82);
        CHECK.due("98 of 1", x.has(0, 1), 98);
        x.hours(1);
        CHECK.due("99 of 1", x.has(0, 1), 99);
        x.hours(1);
        CHECK.due("100 are 99", x.has(0, 1), 99);
        x.send(0, 0);
        x.send(1, 0);
        x.send(2, 2);
        pass(x, 10);
        CHECK.due("10 of 9 are 90", x.has(2, 2), 90);
        x.hours(1);
        CHECK.due("11 of 9 are 99", x.has(2, 2), 99);
        x.hours(1);
        CHECK.due("12 of 9 are 99", x.has(2, 2), 99);
        CHECK.due("nobody in the cellar has more", x.has(0, 2) + x.has(1, 2), 0);
    }

    private static void shyness() {
        CHECK.about(17, "if it is cold, its SHYNESS is 1 more (99 at most)");
        DumbwaiterYoung x = Check.with("floor a music 1 cold;floor b music 1;floor c music 9 cold;child p 1;child q 1;child r 1;child s 1;");
        x.send(0, 1);
        x.send(1, 2);
        x.send(2, 3);
        x.hours(1);
        CHECK.due("1 more on a cold one", Check.child(x, 0, 3), 1);
        CHECK.due("none on another", Check.child(x, 1, 3), 0);
        CHECK.due("1, however much it gives", Check.child(x, 2, 3), 1);
        CHECK.due("none in the cellar", Check.child(x, 3, 3), 0);
        pass(x, 97);
        CHECK.due("98", Check.child(x, 0, 3), 98);
        x.hours(1);
        CHECK.due("99", Check.child(x, 0, 3), 99);
        x.hours(1);
        CHECK.due("99 stay 99", Check.child(x, 0, 3), 99);
    }

    private static void talk() {
        CHECK.about(17, "of the first GIFT of which one has 2 more than the other one, or more, the other one has 1 more");
        DumbwaiterYoung x = Check.with("floor a music 1;floor b faith 2;floor c letters 3;child p 1;child q 1;child r 1;child s 1;");
        x.send(0, 1);
        x.send(1, 2);
        x.hours(1);
        CHECK.due("1 more is not enough", x.has(1, 1), 0);
        CHECK.due("2 more are", x.has(0, 2), 1);
        x.hours(1);
        CHECK.due("2 of music, the first GIFT", x.has(1, 1), 1);
        CHECK.due("so none of faith, though it has 4 and 1", x.has(0, 2), 1);
        x.hours(1);
        CHECK.due("3 and 1", x.has(1, 1), 2);
        x.hours(1);
        CHECK.due("4 and 2", x.has(1, 1), 3);
        DumbwaiterYoung y = Check.with("floor a music 9;floor b faith 1;floor c faith 1;child p 1;child q 1;");
        y.send(0, 1);
        y.send(1, 3);
        y.hours(5);
        CHECK.due("two off: no talk", y.has(1, 1), 0);
        y.send(1, 2);
        y.hours(1);
        CHECK.due("next to one another: 1, however much more it is", y.has(1, 1), 1);
        CHECK.due("of faith 6 more, but music came first", y.has(0, 2), 0);
        CHECK.due("who has more keeps it", y.has(0, 1), 54);
        y.send(1, 0);
        y.hours(1);
        CHECK.due("the cellar is no FLOOR: no talk", y.has(1, 1), 1);
        DumbwaiterYoung z = Check.with("floor a music 1;floor b faith 1;floor c manners 9;child p 1;child q 1;child r 1;");
        z.send(2, 3);
        z.hours(1);
        z.send(2, 0);
        z.send(0, 1);
        z.send(1, 2);
        z.hours(1);
        CHECK.due("nobody hears of one in the cellar", z.has(0, 0) + z.has(1, 0), 0);
        CHECK.due("1 and 0 of either: nobody hears", z.has(0, 2) + z.has(1, 1), 0);
        pairs();
    }

    private static void pairs() {
        CHECK.about(17, "of two who are NEIGHBOURS, pair by pair (by the lesser number, then the greater)");
        int[][] orders = {{0, 1, 2}, {2, 1, 0}, {1, 0, 2}, {0, 2, 1}, {1, 2, 0}, {2, 0, 1}};
        // The far one has 1 by the second HOUR only if the one in the midst heard ahead of it: it has 2 then, and had 1.
        int[] far = {1, 0, 1, 1, 0, 0};
        for (int i = 0; i < orders.length; i++) {
            DumbwaiterYoung x = Check.with("floor a music 3;floor b faith 1;floor c faith 1;child p 1;child q 1;child r 1;");
            x.send(orders[i][0], 1);
            x.send(orders[i][1], 2);
            x.send(orders[i][2], 3);
            x.hours(2);
            CHECK.due("order " + i + ": the one in the midst", x.has(orders[i][1], 1), 2);
            CHECK.due("order " + i + ": the far one", x.has(orders[i][2], 1), far[i]);
        }
    }

    private static void growing() {
        CHECK.about(17, "each CHILD that is not served is an hour older; if its AGE is divided by 'grow' then, its WEIGHT is 1 more (60 at most)");
        int[] grows = {1, 2, 6, 48};
        for (int grow : grows) {
            DumbwaiterYoung x = Check.with("child c 1;child d 1;grow " + grow + ";");
            x.serve(1);
            pass(x, grow - 1);
            CHECK.due("grow " + grow + ": an hour ahead", Check.child(x, 0, 1), 1);
            x.hours(1);
            CHECK.due("grow " + grow + ": AGE", Check.child(x, 0, 2), grow);
            CHECK.due("grow " + grow + ": WEIGHT", Check.child(x, 0, 1), 2);
            pass(x, grow - 1);
            CHECK.due("grow " + grow + ": an hour ahead of the second", Check.child(x, 0, 1), 2);
            x.hours(1);
            CHECK.due("grow " + grow + ": the second", Check.child(x, 0, 1), 3);
            CHECK.due("grow " + grow + ": a served one is no older", Check.child(x, 1, 2), 0);
            CHECK.due("grow " + grow + ": nor heavier", Check.child(x, 1, 1), 1);
        }
        DumbwaiterYoung x = Check.with("child c 20;grow 1;");
        pass(x, 39);
        CHECK.due("59", Check.child(x, 0, 1), 59);
        x.hours(1);
        CHECK.due("60", Check.child(x, 0, 1), 60);
        x.hours(1);
        CHECK.due("60 at most", Check.child(x, 0, 1), 60);
        CHECK.due("older all the same", Check.child(x, 0, 2), 41);
    }

    private static void undo() {
        CHECK.about(18, "how many more can be (8 at most are kept); NONE: none is.");
        for (int acts = 0; acts <= 10; acts++) {
            DumbwaiterYoung x = Check.with("floor f music 1;child c 1;uncle u 1;");
            for (int i = 0; i < acts; i++) {
                x.hours(1);
            }
            int kept = Math.min(acts, 8);
            for (int left = kept - 1; left >= 0; left--) {
                CHECK.due("of " + acts, x.undo(), left);
            }
            CHECK.due("of " + acts + ", none is left", x.undo(), -1);
            CHECK.due("of " + acts + ", so far undone", x.now(0), acts - kept);
        }
        CHECK.about(18, "The latest of send(), hang(), take(), serve(), back() that was done, hours() above 0, drawn() above 0, a BOOK that was lived is undone");
        String[] was = new String[8];
        DumbwaiterYoung x = Check.with("floor f music 1;child c 1;uncle u 1;law music 1;");
        for (int i = 0; i < 8; i++) {
            was[i] = Check.all(x);
            act(x, i);
            CHECK.no("act " + i + " was done", was[i].equals(Check.all(x)));
            refused(x);
        }
        for (int i = 7; i >= 0; i--) {
            CHECK.due("act " + i, x.undo(), i);
            CHECK.yes("act " + i + " is undone", was[i].equals(Check.all(x)));
        }
        CHECK.due("none is", x.undo(), -1);
        CHECK.yes("nothing changes then", was[0].equals(Check.all(x)));
        undoOfAll();
        roundAndRound();
        over();
    }

    /** Acts and undoing by turns, so that what is kept goes round many times: against a row of HOURS, of which 8 are kept. */
    private static void roundAndRound() {
        CHECK.about(18, "how many more can be (8 at most are kept); NONE: none is.");
        DumbwaiterYoung x = Check.with("child c 1;");
        java.util.ArrayDeque<Integer> kept = new java.util.ArrayDeque<>();
        int[] turns = {3, 2, 8, 8, 1, 1, 1, 9, 3, 5, 12, 4, 2, 7, 5, 9, 9, 10, 8, 1, 11, 6, 6, 9};
        for (int turn = 0; turn < turns.length; turn++) {
            for (int i = 0; i < turns[turn]; i++) {
                if (turn % 2 == 0) {
                    kept.addLast(x.now(0));
                    x.hours(1 + turn % 3);
                    if (kept.size() > 8) {
                        kept.removeFirst();
                    }
                } else {
                    Integer was = kept.isEmpty() ? Integer.valueOf(x.now(0)) : kept.removeLast();
                    boolean none = x.now(0) == was;
                    CHECK.due("turn " + turn + ", " + i, x.undo(), none ? -1 : kept.size());
                    CHECK.due("turn " + turn + ", " + i + ": the HOUR", x.now(0), was);
                }
            }
        }
    }

    /** All that an act may change is as it was: WEIGHT, AGE, SHYNESS, falls, GIFTS, WEAR, ropes, FLOORS passed, the HOUR. */
    private static void undoOfAll() {
        DumbwaiterYoung x = Check.with("floor f music 3 cold;floor g faith 2 cold;child c 4;child d 3;uncle u 1;rope 10;grow 1;");
        x.send(0, 1);
        x.send(1, 1);
        x.hours(1);
        String was = Check.all(x);
        x.send(1, 2);
        CHECK.due("it fell", Check.child(x, 1, 4), 1);
        CHECK.due("the fall is undone", x.undo(), 2);
        CHECK.yes("as it was ahead of the fall", was.equals(Check.all(x)));
        x.hours(3);
        CHECK.due("HOURS are undone", x.undo(), 2);
        CHECK.yes("as it was ahead of the HOURS", was.equals(Check.all(x)));
        Check.book(x, "hour 2;send d g;hang u;serve c;hour 1;", 1);
        CHECK.due("the BOOK is undone", x.undo(), 2);
        CHECK.yes("as it was ahead of the BOOK", was.equals(Check.all(x)));
        x.drawn(20, 5);
        CHECK.due("what was drawn is undone", x.undo(), 2);
        CHECK.yes("as it was ahead of the draws", was.equals(Check.all(x)));
    }

    private static void act(DumbwaiterYoung x, int which) {
        switch (which) {
            case 0 -> x.send(0, 1);
            case 1 -> x.hang(0);
            case 2 -> x.hours(1);
            case 3 -> x.serve(0);
            case 4 -> x.back(0);
            case 5 -> x.take(0);
            case 6 -> x.drawn(1, 1);
            default -> Check.book(x, "hour 2;", 1);
        }
    }

    /** Calls that do nothing, so that nothing of them can be undone. */
    private static void refused(DumbwaiterYoung x) {
        x.send(0, Math.max(0, Check.child(x, 0, 0)));
        x.send(0, 2);
        x.send(1, 0);
        if (x.uncle(0, 1) == 1) {
            x.hang(0);
        } else {
            x.take(0);
        }
        x.hang(1);
        x.take(-1);
        if (Check.child(x, 0, 0) == -1) {
            x.serve(0);
        } else {
            x.back(0);
        }
        x.hours(0);
        x.hours(61);
        x.drawn(0, 1);
        x.drawn(61, 1);
        Check.book(x, "", 1);
        Check.book(x, "hour 3;", 0);
        Check.book(x, "hour 3;?", 1);
        Check.book(x, "hour 3;", 2);
    }

    private static void over() {
        CHECK.about(18, "hours() above 0, drawn() above 0");
        DumbwaiterYoung x = Check.with("floor f music 1;child c 1;");
        pass(x, 400);
        x.hours(1);
        x.drawn(1, 1);
        CHECK.due("0 of each are no acts: the last hours(), of 40", x.undo(), 6);
        CHECK.due("360", x.now(0), 360);
        CHECK.about(18, "a BOOK that was lived");
        DumbwaiterYoung y = Check.with("floor f music 1;child c 1;uncle u 1;");
        Check.book(y, "hang u;hang u;", 1);
        CHECK.due("as far as it is not WRONG", y.undo(), 0);
        CHECK.due("he does not hang", y.uncle(0, 1), 0);
        Check.book(y, "take u;", 1);
        CHECK.due("nothing of it was lived", y.undo(), -1);
    }

    private static void newTower() {
        CHECK.about(4, "A new TOWER: HOUR 0, all CHILDREN in the cellar with nothing, AGE 0, WEAR 0, nobody hangs, no SENTENCE.");
        String text = "floor a music 3 cold;floor b faith 1;child c 9;child d 5;child e 20;uncle u 4;law music 3;rope 30;grow 2;";
        DumbwaiterYoung x = Check.with(text);
        String fresh = Check.all(x);
        x.send(0, 1);
        x.hang(0);
        x.hours(5);
        x.serve(0);
        x.send(1, 1);
        x.send(1, 2);
        x.send(1, 1);
        for (int i = 0; i < 9; i++) {
            x.send(2, i % 2 == 0 ? 2 : 0);
        }
        Check.sentence(x, "ready");
        CHECK.yes("a rope RAN", x.now(2) > 0);
        CHECK.yes("one is served", x.now(4) != 0);
        x.send(1, Check.child(x, 1, 0) == 0 ? 1 : 0);
        CHECK.yes("there is WEAR", x.now(1) > 0);
        CHECK.yes("FLOORS were passed", x.now(7) > 0);
        CHECK.due("the same text again", Check.tower(x, text), 9);
        CHECK.yes("all is new", fresh.equals(Check.all(x)));
        CHECK.due("no SENTENCE", x.said(-1), -1);
    }

    public static void main(String[] args) {
        noSuchOnes();
        whyNotSent();
        wear();
        runs();
        hangAndTake();
        serveAndBack();
        hours();
        mostOfAGift();
        shyness();
        talk();
        growing();
        undo();
        newTower();
        CHECK.finish();
    }
}
