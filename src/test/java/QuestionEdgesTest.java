/** Edges of questions (==== 3), promises 19 to 31: each case names the words of the document that it is about. */
public final class QuestionEdgesTest {
    private static final Check CHECK = new Check("QuestionEdgesTest");
    private static final int LEAST = Integer.MIN_VALUE;
    private static final int MOST = Integer.MAX_VALUE;

    private static void pass(DumbwaiterYoung x, int hours) {
        for (int left = hours; left > 0; left -= 60) {
            x.hours(Math.min(left, 60));
        }
    }

    private static void when() {
        CHECK.about(19, "how many HOURS go till a CHILD LACKS nothing, if nothing else is done (0: it does now; 200 at most)");
        DumbwaiterYoung x = Check.with("floor a music 2;floor b faith 1;child c 1;child d 1;law music 4;");
        x.send(0, 1);
        CHECK.due("4 by 2", x.when(0), 2);
        x.hours(1);
        CHECK.due("2 of 4", x.when(0), 1);
        x.hours(1);
        CHECK.due("4 of 4: it does now", x.when(0), 0);
        CHECK.due("the one in the cellar: never", x.when(1), -1);
        x.send(1, 2);
        CHECK.due("by talk, too", x.when(1), 4);
        CHECK.due("without a law: it does now", Check.with("child c 1;").when(0), 0);
        CHECK.due("5 by 2 are 3", whenFirst(2, 5), 3);
        CHECK.due("6 by 2 are 3", whenFirst(2, 6), 3);
        CHECK.due("7 by 2 are 4", whenFirst(2, 7), 4);
        twoHundred();
        CHECK.about(19, "NONE: longer, fewer are left, it is served, no such one.");
        fewerLeft();
        DumbwaiterYoung y = Check.with("child c 1;child d 1;");
        y.serve(0);
        CHECK.due("it is served", y.when(0), -1);
        CHECK.due("the last CHILD", y.when(1), 0);
        int[] none = {-1, 2, LEAST, MOST};
        for (int c : none) {
            CHECK.due("outside: when(" + c + ")", y.when(c), -1);
        }
    }

    private static int whenFirst(int gives, int law) {
        DumbwaiterYoung x = Check.with("floor a music " + gives + ";child c 1;law music " + law + ";");
        x.send(0, 1);
        return x.when(0);
    }

    /** One hears an HOUR each of manners, of music, till it has 98 of both, and only then of faith: the fourth at HOUR 200. */
    private static void twoHundred() {
        DumbwaiterYoung x = Check.with("floor a manners 9;floor b letters 1;floor d music 9;floor e faith 9;child p 1;child q 1;rope 500;law faith 4;");
        int[] rooms = {3, 4, 1};
        for (int f : rooms) {
            x.send(0, f);
            x.hours(11);
        }
        x.send(1, 2);
        CHECK.due("200", x.when(1), 200);
        x.hours(1);
        CHECK.due("199", x.when(1), 199);
        DumbwaiterYoung y = Check.with("floor a manners 9;floor b letters 1;floor d music 9;floor e faith 9;child p 1;child q 1;rope 500;law faith 5;");
        for (int f : rooms) {
            y.send(0, f);
            y.hours(11);
        }
        y.send(1, 2);
        CHECK.due("201 is longer", y.when(1), -1);
        y.hours(1);
        CHECK.due("an HOUR later it is 200", y.when(1), 200);
        pass(y, 199);
        CHECK.due("1", y.when(1), 1);
        y.hours(1);
        CHECK.due("so it came", y.when(1), 0);
    }

    private static void fewerLeft() {
        DumbwaiterYoung x = Check.with("floor a music 1;child c 1;child d 1;law music 3;");
        pass(x, 397);
        x.send(0, 1);
        CHECK.due("3 of 3 that are left", x.when(0), 3);
        x.send(0, 0);
        x.hours(1);
        x.send(0, 1);
        CHECK.due("3, but 2 are left", x.when(0), -1);
        x.hours(2);
        CHECK.due("1, but none is left", x.when(0), -1);
        DumbwaiterYoung y = Check.with("child c 1;");
        pass(y, 400);
        CHECK.due("none is left, it LACKS nothing: 0", y.when(0), 0);
    }

    private static void plan() {
        CHECK.about(20, "NONE: nothing gives what it LACKS, it is served, no such one.");
        DumbwaiterYoung x = Check.with("floor a music 3;child c 1;child d 1;law music 6;");
        int[] none = {-1, 2, LEAST, MOST};
        for (int c : none) {
            CHECK.due("outside: plan(" + c + ")", x.plan(c), -1);
        }
        CHECK.about(22, "NONE ahead of any.");
        CHECK.due("ahead of any", x.passes(), -1);
        CHECK.about(21, "NONE: none such, or ahead of any.");
        CHECK.due("ahead of any", x.planAt(0), -1);
        CHECK.about(20, "for as many HOURS as it takes (without talk); its HOURS in all");
        CHECK.due("inside: the first, 6 by 3", x.plan(0), 2);
        CHECK.due("inside: the last", x.plan(1), 2);
        CHECK.due("5 by 3 are 2", planFirst(3, 5), 2);
        CHECK.due("7 by 3 are 3", planFirst(3, 7), 3);
        CHECK.due("1 by 9 is 1", planFirst(9, 1), 1);
        CHECK.due("9 by 9 are 1", planFirst(9, 9), 1);
        CHECK.due("10 by 9 are 2", planFirst(9, 10), 2);
        CHECK.due("60 by 1", planFirst(1, 60), 60);
        DumbwaiterYoung t = Check.with("floor a music 9;floor b music 1;floor c faith 1;child p 1;child q 1;law music 18;law faith 3;");
        t.send(0, 1);
        t.send(1, 2);
        CHECK.due("2 and 3, whoever talks", t.plan(1), 5);
        t.send(1, 3);
        CHECK.due("wherever it is", t.plan(1), 5);
        x.send(0, 1);
        x.hours(1);
        CHECK.due("what it has is not lacking", x.plan(0), 1);
        x.hours(1);
        CHECK.due("it LACKS nothing: 0", x.plan(0), 0);
        CHECK.due("no FLOOR is passed", x.passes(), 0);
        CHECK.due("nor in the order", x.planAt(0), -1);
        x.plan(1);
        x.serve(0);
        CHECK.about(20, "NONE: nothing gives what it LACKS, it is served, no such one.");
        CHECK.due("it is served", x.plan(0), -1);
        CHECK.about(21, "by the latest plan() that was not NONE");
        CHECK.due("the latest stays", x.planAt(0), 1);
        DumbwaiterYoung y = Check.with("floor a music 3;floor b letters 1;child c 1;law music 6;law faith 1;law letters 1;");
        CHECK.due("nothing gives one of three", y.plan(0), -1);
        CHECK.due("still ahead of any", y.planAt(0), -1);
        CHECK.due("still ahead of any", y.passes(), -1);
        CHECK.due("no FLOOR at all", Check.with("child c 1;law music 1;").plan(0), -1);
        CHECK.due("no FLOOR, but no law", Check.with("child c 1;").plan(0), 0);
    }

    private static int planFirst(int gives, int law) {
        return Check.with("floor a music " + gives + ";child c 1;law music " + law + ";").plan(0);
    }

    private static void orderIs(DumbwaiterYoung x, String what, int passes, int... floors) {
        CHECK.due("passes(): " + what, x.passes(), passes);
        for (int k = 0; k < floors.length; k++) {
            CHECK.due("planAt(" + k + "): " + what, x.planAt(k), floors[k]);
        }
        int[] none = {-1, floors.length, LEAST, MOST};
        for (int k : none) {
            CHECK.due("none such, planAt(" + k + "): " + what, x.planAt(k), -1);
        }
    }

    private static void order() {
        CHECK.about(21, "the FLOOR that gives most of it (of like ones the first)");
        DumbwaiterYoung x = Check.with("floor a music 8;floor b music 9;floor c music 9;child p 1;law music 9;");
        x.plan(0);
        orderIs(x, "9 is more than 8, the first 9", 2, 2);
        x.send(0, 3);
        x.plan(0);
        orderIs(x, "though it is on another that gives as much", 1, 2);
        CHECK.about(21, "from where it is, the fewest FLOORS passed in all; of like ones the first: FLOOR by FLOOR the least");
        DumbwaiterYoung y = Check.with("floor a manners 1;floor b music 1;floor c faith 1;floor d letters 1;child p 1;rope 500;law manners 9;law music 9;law faith 9;law letters 9;");
        CHECK.due("9 HOURS of each", y.plan(0), 36);
        orderIs(y, "from the cellar up", 4, 1, 2, 3, 4);
        y.send(0, 4);
        y.plan(0);
        orderIs(y, "from the top down", 3, 4, 3, 2, 1);
        y.send(0, 3);
        y.plan(0);
        orderIs(y, "from the third: of like ways the least", 4, 3, 4, 2, 1);
        y.send(0, 2);
        y.plan(0);
        orderIs(y, "from the second: of like ways the least", 4, 1, 2, 3, 4);
        DumbwaiterYoung z = Check.with("floor a manners 1;floor b letters 1;floor c music 1;child p 1;rope 500;law manners 9;law music 9;");
        z.send(0, 2);
        z.plan(0);
        orderIs(z, "both ways alike: the least first", 3, 1, 3);
        otherOrders();
        CHECK.about(22, "FLOORS passed by that");
        Check.tower(z, "");
        orderIs(z, "what was told stays", 3, 1, 3);
    }

    /** The same FLOORS, however the GIFTS lie on them. */
    private static void otherOrders() {
        String[] gifts = {"manners", "music", "faith", "letters"};
        for (int code = 0; code < 256; code++) {
            int[] on = {code & 3, code >> 2 & 3, code >> 4 & 3, code >> 6};
            int seen = 1 << on[0] | 1 << on[1] | 1 << on[2] | 1 << on[3];
            if (seen == 15) {
                DumbwaiterYoung x = Check.with("floor a " + gifts[on[0]] + " 1;floor b " + gifts[on[1]] + " 1;floor c " + gifts[on[2]] + " 1;floor d " + gifts[on[3]]
                    + " 1;child p 1;rope 500;law manners 2;law music 3;law faith 4;law letters 5;");
                CHECK.due("HOURS, order " + code, x.plan(0), 14);
                orderIs(x, "order " + code, 4, 1, 2, 3, 4);
                x.send(0, 3);
                x.plan(0);
                orderIs(x, "from the third, order " + code, 4, 3, 4, 2, 1);
            }
        }
    }

    private static void been() {
        CHECK.about(23, "BEEN by the tape (4 bytes: how much of each GIFT) in n HOURS");
        DumbwaiterYoung x = Check.with("floor a music 2;floor b letters 9;floor c music 3;floor d manners 1;floor e faith 9;");
        String[] tapes = {"", "\0", "\0\0\0", "\0\0\0\0\0", "\0".repeat(20)};
        for (String tape : tapes) {
            Check.tape(x, tape);
            CHECK.due("outside: " + tape.length() + " bytes", x.been(1), -1);
            CHECK.due("the tape is empty then", x.count(5), 0);
        }
        CHECK.due("inside: 4 bytes", Check.been(x, 1, 0, 0, 0, 0), 1);
        CHECK.due("the first byte: manners", Check.been(x, 1, 1, 0, 0, 0), 1);
        CHECK.due("its FLOOR", x.beenAt(0), 4);
        CHECK.due("the second byte: music", Check.been(x, 1, 0, 3, 0, 0), 1);
        CHECK.due("its FLOOR", x.beenAt(0), 3);
        CHECK.due("the third byte: faith", Check.been(x, 1, 0, 0, 9, 0), 1);
        CHECK.due("its FLOOR", x.beenAt(0), 5);
        CHECK.due("the last byte: letters", Check.been(x, 1, 0, 0, 0, 9), 1);
        CHECK.due("its FLOOR", x.beenAt(0), 2);
        CHECK.about(23, "BEEN in n (1 to 4) HOURS: how many rows; NONE: not as told.");
        int[] none = {0, 5, -1, LEAST, MOST};
        for (int n : none) {
            CHECK.due("outside: been(" + n + ")", Check.been(x, n, 0, 0, 0, 0), -1);
        }
        CHECK.due("inside: been(1)", Check.been(x, 1, 0, 2, 0, 0), 1);
        CHECK.due("inside: been(4)", Check.been(x, 4, 0, 2, 0, 0), 4);
        CHECK.about(23, "by which a CHILD that had nothing has just so much (without talk, 99 at most)");
        CHECK.due("one less than 2", Check.been(x, 1, 0, 1, 0, 0), 0);
        CHECK.due("2, by one or by none and one", Check.been(x, 2, 0, 2, 0, 0), 2);
        CHECK.due("4: twice the first", Check.been(x, 2, 0, 4, 0, 0), 1);
        CHECK.due("5: both, either first", Check.been(x, 2, 0, 5, 0, 0), 2);
        CHECK.due("6: twice the other", Check.been(x, 2, 0, 6, 0, 0), 1);
        CHECK.due("7: none", Check.been(x, 2, 0, 7, 0, 0), 0);
        CHECK.due("36 in 4", Check.been(x, 4, 0, 0, 0, 36), 1);
        CHECK.due("37 in 4", Check.been(x, 4, 0, 0, 0, 37), 0);
        CHECK.due("35 in 4", Check.been(x, 4, 0, 0, 0, 35), 0);
        CHECK.due("36 in 3", Check.been(x, 3, 0, 0, 0, 36), 0);
        CHECK.due("99 in 4", Check.been(x, 4, 0, 0, 0, 99), 0);
        CHECK.due("255 in 4", Check.been(x, 4, 255, 255, 255, 255), 0);
        CHECK.due("each GIFT once", Check.been(x, 4, 1, 2, 9, 9), 24);
        CHECK.due("each GIFT once, in 3", Check.been(x, 3, 1, 2, 9, 9), 0);
        rowsOfEmpty();
    }

    private static void rowsOfEmpty() {
        DumbwaiterYoung x = new DumbwaiterYoung();
        CHECK.due("an empty TOWER: the cellar alone", Check.been(x, 4, 0, 0, 0, 0), 1);
        CHECK.due("an empty TOWER gives nothing", Check.been(x, 4, 0, 1, 0, 0), 0);
        StringBuilder eight = new StringBuilder();
        for (int i = 0; i < 8; i++) {
            eight.append("floor f").append((char) ('a' + i)).append(" music 1;");
        }
        DumbwaiterYoung y = Check.with(eight.toString());
        CHECK.due("the most rows there can be", Check.been(y, 4, 0, 4, 0, 0), 4096);
        CHECK.due("the first of 4096", y.beenAt(0) + y.beenAt(1) + y.beenAt(2) + y.beenAt(3), 4);
    }

    private static void beenAt() {
        CHECK.about(24, "Where it was in the k-th HOUR (from 0) by the first of them, by the latest been() above 0; NONE: none such, or ahead of any.");
        DumbwaiterYoung x = Check.with("floor a music 2;floor b music 3;");
        CHECK.due("ahead of any", x.beenAt(0), -1);
        CHECK.about(25, "NONE ahead of any.");
        CHECK.due("ahead of any", x.ask(), -1);
        Check.been(x, 1, 0, 1, 0, 0);
        CHECK.due("a been() of 0 is none", x.ask(), -1);
        CHECK.due("a been() of 0 is none", x.beenAt(0), -1);
        Check.been(x, 5, 0, 0, 0, 0);
        CHECK.due("nor is NONE", x.ask(), -1);
        Check.been(x, 1, 0, 3, 0, 0);
        CHECK.due("by a single row: the first HOUR", x.ask(), 0);
        CHECK.about(24, "rows of FLOORS (0: the cellar), one for each HOUR");
        Check.been(x, 3, 0, 5, 0, 0);
        rowIs(x, 0, 1, 2);
        CHECK.about(24, "the first: HOUR by HOUR the least");
        Check.been(x, 2, 0, 5, 0, 0);
        rowIs(x, 1, 2);
        Check.been(x, 4, 0, 6, 0, 0);
        rowIs(x, 0, 0, 2, 2);
        CHECK.about(24, "by the latest been() above 0");
        Check.been(x, 1, 0, 1, 0, 0);
        rowIs(x, 0, 0, 2, 2);
        Check.been(x, 0, 0, 2, 0, 0);
        rowIs(x, 0, 0, 2, 2);
        Check.been(x, 1, 0, 2, 0, 0);
        rowIs(x, 1);
        Check.tower(x, "");
        rowIs(x, 1);
        CHECK.about(25, "the HOUR of which the greatest number of these that may still be left is the least, if one hears where it was then (of like ones the first)");
        // Rows stay rows when their HOURS change places, so that each HOUR leaves as many.
        Check.tower(x, "floor a music 2;floor b music 3;floor c music 5;");
        for (int n = 1; n <= 4; n++) {
            for (int music = 0; music <= 20; music++) {
                if (Check.been(x, n, 0, music, 0, 0) > 0) {
                    CHECK.due("each HOUR leaves as many: the first, of " + n + " for " + music, x.ask(), 0);
                }
            }
        }
        DumbwaiterYoung y = new DumbwaiterYoung();
        for (int i = 0; i < 3; i++) {
            Check.been(y, 1, 0, 0, 0, 0);
        }
        Check.been(y, 2, 0, 0, 0, 0);
        CHECK.due("by the latest alone: what earlier ones heard of the first HOUR does not count", y.ask(), 0);
    }

    private static void rowIs(DumbwaiterYoung x, int... row) {
        for (int k = 0; k < row.length; k++) {
            CHECK.due("beenAt(" + k + ")", x.beenAt(k), row[k]);
        }
        int[] none = {-1, row.length, LEAST, MOST};
        for (int k : none) {
            CHECK.due("none such: beenAt(" + k + ")", x.beenAt(k), -1);
        }
    }

    private static void hung() {
        CHECK.about(27, "NONE ahead of any.");
        DumbwaiterYoung x = Check.with("child a 6;child b 1;child c 20;uncle u 5;uncle v 7;uncle w 5;uncle y 1;");
        CHECK.due("ahead of any", x.hanging(), -1);
        CHECK.about(26, "by how much they differ; NONE: no such one.");
        int[] none = {-1, 3, LEAST, MOST};
        for (int c : none) {
            CHECK.due("outside: hung(" + c + ")", x.hung(c), -1);
        }
        CHECK.due("still ahead of any", x.hanging(), -1);
        CHECK.about(27, "UNCLES by whose BALANCE its WEIGHT differs least; of like ones the fewest, then the least as bits");
        CHECK.due("5 and 1: 0", x.hung(0), 0);
        CHECK.due("of 9 and 12 the least as bits", x.hanging(), 9);
        CHECK.due("1: 0", x.hung(1), 0);
        CHECK.due("the fourth", x.hanging(), 8);
        CHECK.due("all are 18: 2", x.hung(2), 2);
        CHECK.due("all", x.hanging(), 15);
        x.hung(3);
        CHECK.due("NONE leaves the latest", x.hanging(), 15);
        DumbwaiterYoung y = Check.with("child a 10;child b 3;child c 2;child d 1;uncle u 4;uncle v 6;uncle w 10;");
        CHECK.due("10 by one or by two", y.hung(0), 0);
        CHECK.due("the fewest", y.hanging(), 4);
        CHECK.due("3: one too heavy", y.hung(1), 1);
        CHECK.due("one", y.hanging(), 1);
        CHECK.due("2: nobody or 4", y.hung(2), 2);
        CHECK.due("nobody is fewer", y.hanging(), 0);
        CHECK.due("1: nobody", y.hung(3), 1);
        CHECK.due("nobody", y.hanging(), 0);
        CHECK.due("no UNCLES", Check.with("child a 20;").hung(0), 20);
        allFive();
    }

    private static void allFive() {
        CHECK.about(26, "UNCLES by whose BALANCE its WEIGHT differs least; of like ones the fewest, then the least as bits");
        int[] weights = {3, 5, 8, 2, 5};
        DumbwaiterYoung x = Check.with("child a 1;uncle u 3;uncle v 5;uncle w 8;uncle y 2;uncle z 5;grow 1;");
        for (int weight = 1; weight <= 30; weight++) {
            int best = 0;
            int least = weight * 100;
            for (int bits = 0; bits < 32; bits++) {
                int sum = 0;
                for (int u = 0; u < 5; u++) {
                    sum += (bits >> u & 1) * weights[u];
                }
                int off = Math.abs(sum - weight) * 100 + Integer.bitCount(bits);
                if (off < least || bits == 0) {
                    best = bits;
                    least = off;
                }
            }
            CHECK.due("of WEIGHT " + weight, x.hung(0), least / 100);
            CHECK.due("who, of WEIGHT " + weight, x.hanging(), best);
            x.hours(1);
        }
    }

    private static void holds() {
        CHECK.about(28, "how often it can be sent, from the cellar to there, and back, and so on, till the rope RUNS by it (that one counted), as all is now, WEAR, too, but for where it is");
        int[] ropes = {19, 20, 21, 29, 30, 31};
        int[] due = {2, 2, 3, 3, 3, 4};
        for (int i = 0; i < ropes.length; i++) {
            DumbwaiterYoung x = Check.with("floor a music 1;floor b music 1;child c 5;rope " + ropes[i] + ";");
            CHECK.due("10 each of " + ropes[i], x.holds(0, 2), due[i]);
            int sent = 0;
            for (; x.now(2) == 0; sent++) {
                x.send(0, sent % 2 == 0 ? 2 : 0);
            }
            CHECK.due("as it comes, of " + ropes[i], sent, due[i]);
        }
        CHECK.due("1 each of 10, the least there can be", Check.with("floor a music 1;child c 1;rope 10;").holds(0, 1), 10);
        DumbwaiterYoung x = Check.with("floor a music 1;floor b music 1;child c 5;child d 9;uncle u 5;rope 20;law faith 1;");
        CHECK.due("the first time", x.holds(1, 2) * 10 + x.holds(1, 1), 23);
        x.send(0, 2);
        CHECK.due("of 10 that are left, one exactly", x.holds(0, 2), 1);
        CHECK.due("of 10 that are left, two", x.holds(0, 1), 2);
        CHECK.due("more than is left", x.holds(1, 2), 1);
        CHECK.about(28, "how often; 0: it never RUNS; NONE: it is served, no such ones.");
        x.hang(0);
        CHECK.due("in BALANCE", x.holds(0, 2), 0);
        CHECK.due("4 each of 10", x.holds(1, 1), 3);
        int[][] none = {{0, 0}, {0, 3}, {0, -1}, {-1, 1}, {2, 1}, {LEAST, 1}, {MOST, 1}, {0, LEAST}, {0, MOST}};
        for (int[] args : none) {
            CHECK.due("outside: holds(" + args[0] + ", " + args[1] + ")", x.holds(args[0], args[1]), -1);
        }
        DumbwaiterYoung y = Check.with("floor a music 1;child c 5;child d 5;");
        y.serve(0);
        CHECK.due("it is served", y.holds(0, 1), -1);
        CHECK.due("the last one is not", y.holds(1, 1), 20);
        y.back(0);
        CHECK.due("it came back", y.holds(0, 1), 20);
    }

    private static void web() {
        CHECK.about(29, "CHILDREN that come to a CHILD by NEIGHBOURS and their NEIGHBOURS, and so on (itself, too), as bits; NONE: no such one.");
        DumbwaiterYoung x = Check.with("floor a music 1;floor b music 1;floor c music 1;floor d music 1;floor e music 1;floor f music 1;floor g music 1;"
            + "child p 1;child q 1;child r 1;child s 1;child t 1;child u 1;rope 500;");
        CHECK.due("itself alone", x.web(0), 1);
        CHECK.due("itself alone, the last", x.web(5), 32);
        int[] none = {-1, 6, LEAST, MOST};
        for (int c : none) {
            CHECK.due("outside: web(" + c + ")", x.web(c), -1);
        }
        int[] places = {4, 1, 6, 3, 2, 5};
        for (int c = 0; c < 6; c++) {
            x.send(c, places[c]);
        }
        for (int c = 0; c < 6; c++) {
            CHECK.due("all six in a row: web(" + c + ")", x.web(c), 63);
        }
        x.send(5, 7);
        int[] webs = {27, 27, 36, 27, 27, 36};
        for (int c = 0; c < 6; c++) {
            CHECK.due("two rows: web(" + c + ")", x.web(c), webs[c]);
        }
        x.serve(3);
        CHECK.due("one between is served", x.web(1), 18);
        CHECK.due("one behind it is alone", x.web(0), 1);
        CHECK.due("a served one has itself", x.web(3), 8);
        x.send(1, 0);
        CHECK.due("nobody by the cellar", x.web(1) * 100 + x.web(4), 216);
        againstNumbers();
    }

    /** Six in a row, up and down by their numbers: the last comes by five others. */
    private static void againstNumbers() {
        for (int way = 0; way <= 1; way++) {
            DumbwaiterYoung x = Check.with("floor a music 1;floor b music 1;floor c music 1;floor d music 1;floor e music 1;floor f music 1;"
                + "child p 1;child q 1;child r 1;child s 1;child t 1;child u 1;rope 500;");
            for (int c = 0; c < 6; c++) {
                x.send(c, way == 0 ? 6 - c : c + 1);
            }
            for (int c = 0; c < 6; c++) {
                CHECK.due("way " + way + ": web(" + c + ")", x.web(c), 63);
            }
        }
    }

    private static void bargain() {
        CHECK.about(31, "NONE: none, no such one, or ahead of any.");
        DumbwaiterYoung x = Check.with("floor f music 2;floor g faith 3;child a 1;child b 1;child c 1;law music 9;");
        for (int c = -1; c <= 6; c++) {
            CHECK.due("ahead of any: bargained(" + c + ")", x.bargained(c), -1);
        }
        CHECK.about(30, "the pairs (as many as there can be)");
        CHECK.due("more CHILDREN than FLOORS", x.bargain(), 2);
        CHECK.due("more FLOORS than CHILDREN", Check.with("floor f music 2;floor g faith 3;child a 1;").bargain(), 1);
        CHECK.due("no CHILD", Check.with("floor f music 2;").bargain(), 0);
        CHECK.due("no FLOOR", Check.with("child a 1;").bargain(), 0);
        CHECK.due("an empty TOWER", new DumbwaiterYoung().bargain(), 0);
        CHECK.about(31, "by how much they give of GIFTS that it LACKS (0 of others; of like ones the first ahead)");
        CHECK.due("2 of what it LACKS is more than 3 of another", x.bargained(0), 1);
        CHECK.due("somebody is better than nobody", x.bargained(1), 2);
        CHECK.due("none", x.bargained(2), -1);
        CHECK.due("no such one", x.bargained(3), -1);
        CHECK.due("no such one", x.bargained(-1), -1);
        CHECK.due("no such one", x.bargained(LEAST), -1);
        CHECK.due("no such one", x.bargained(MOST), -1);
        likesOfChildren();
        likesOfFloors();
        served();
    }

    private static int first(String text) {
        DumbwaiterYoung x = Check.with(text);
        x.bargain();
        return x.bargained(0);
    }

    private static void likesOfChildren() {
        CHECK.due("1 of what it LACKS, 9 of another", first("floor f faith 9;floor g music 1;child a 1;law music 1;"), 2);
        CHECK.due("8 and 9", first("floor f music 8;floor g music 9;child a 1;law music 1;"), 2);
        CHECK.due("9 and 9: the first", first("floor f music 9;floor g music 9;child a 1;law music 1;"), 1);
        CHECK.due("9 of two GIFTS that it LACKS: the first", first("floor f music 9;floor g faith 9;child a 1;law music 1;law faith 1;"), 1);
        CHECK.due("0 and 0: the first", first("floor f music 1;floor g faith 9;child a 1;"), 1);
    }

    private static void likesOfFloors() {
        CHECK.about(31, "a FLOOR likes CHILDREN as told (of like ones the first ahead)");
        String two = "floor f music 1;child a 1;child b 1;law music 1;";
        CHECK.due("0 and 0: the first", first(two), 1);
        CHECK.due("0 and 1", first(two + "likes f b 1;"), -1);
        CHECK.due("1 and 1: the first", first(two + "likes f a 1;likes f b 1;"), 1);
        CHECK.due("1 and 2", first(two + "likes f a 1;likes f b 2;"), -1);
        CHECK.due("2 and 1", first(two + "likes f a 2;likes f b 1;"), 1);
        CHECK.about(31, "the best of these for the CHILDREN");
        DumbwaiterYoung x = Check.with("floor f music 2;floor g faith 2;child a 1;child b 1;law music 4;law faith 4;likes f b 5;likes g a 5;");
        x.send(1, 1);
        x.hours(2);
        CHECK.due("two", x.bargain(), 2);
        CHECK.due("a likes f, of like ones the first", x.bargained(0), 1);
        CHECK.due("b LACKS faith alone", x.bargained(1), 2);
    }

    private static void served() {
        CHECK.about(30, "CHILDREN that are not served and FLOORS");
        DumbwaiterYoung x = Check.with("floor f music 1;child a 1;child b 1;");
        x.serve(0);
        CHECK.due("one is served", x.bargain(), 1);
        CHECK.due("the served one", x.bargained(0), -1);
        CHECK.due("the other one", x.bargained(1), 1);
        x.serve(1);
        CHECK.due("both are served", x.bargain(), 0);
        CHECK.due("by the latest", x.bargained(1), -1);
        x.back(0);
        CHECK.due("what was told stays", x.bargained(0), -1);
        CHECK.due("one came back", x.bargain(), 1);
        CHECK.about(31, "The FLOOR of a CHILD by the latest bargain()");
        CHECK.due("by the latest", x.bargained(0), 1);
        Check.tower(x, "");
        CHECK.due("in another TOWER, too", x.bargained(0), 1);
        mostOfBoth();
    }

    private static String eightAndSix() {
        StringBuilder text = new StringBuilder();
        for (int f = 0; f < 8; f++) {
            text.append("floor ").append((char) ('a' + f)).append(" music ").append(f + 1).append(';');
        }
        for (int c = 0; c < 6; c++) {
            text.append("child ").append((char) ('p' + c)).append(" 1;");
        }
        return text.toString();
    }

    private static void mostOfBoth() {
        CHECK.about(30, "such that no CHILD and FLOOR like one another better than what they have (somebody is better than nobody)");
        DumbwaiterYoung x = Check.with(eightAndSix());
        CHECK.due("8 and 6", x.bargain(), 6);
        for (int c = 0; c < 6; c++) {
            CHECK.due("all like the first FLOORS, these the first CHILDREN: " + c, x.bargained(c), c + 1);
        }
        StringBuilder likes = new StringBuilder(eightAndSix());
        for (int f = 0; f < 6; f++) {
            for (int c = 1; c < 6; c++) {
                likes.append("likes ").append((char) ('a' + f)).append(' ').append((char) ('p' + c)).append(' ').append(c).append(';');
            }
        }
        Check.tower(x, likes.toString());
        CHECK.due("8 and 6, twice", x.bargain() * 10 + x.bargain(), 66);
        for (int c = 0; c < 6; c++) {
            CHECK.due("these like the last CHILDREN: " + c, x.bargained(c), 6 - c);
        }
        Check.tower(x, eightAndSix() + "law music 9;likes h u 9;likes g u 9;");
        CHECK.due("8 and 6", x.bargain(), 6);
        CHECK.due("the last CHILD has the last FLOOR", x.bargained(5), 8);
        CHECK.due("the first CHILD has the next", x.bargained(0), 7);
        CHECK.due("the fifth CHILD has the third", x.bargained(4), 3);
    }

    public static void main(String[] args) {
        when();
        plan();
        order();
        been();
        beenAt();
        hung();
        holds();
        web();
        bargain();
        CHECK.finish();
    }
}
