/** Promises 19 to 29: WHEN, PLAN, BEEN, ASK, HUNG, HOLDS and the web of NEIGHBOURS. */
public final class QuestionsTest {
    private static final Check CHECK = new Check("QuestionsTest");

    private static void when() {
        DumbwaiterYoung x = Check.with("floor a music 2;floor b faith 1;child c 1;child d 1;law music 5;");
        CHECK.due("19: it gets nothing in the cellar", x.when(0), -1);
        x.send(0, 1);
        CHECK.due("19: 3 HOURS", x.when(0), 3);
        String was = Check.all(x);
        x.send(1, 2);
        CHECK.due("19: by talk", x.when(1), 5);
        x.undo();
        CHECK.yes("19: nothing changed", was.equals(Check.all(x)));
        x.hours(3);
        CHECK.due("19: it does now", x.when(0), 0);
        x.serve(0);
        CHECK.due("19: served", x.when(0), -1);
        CHECK.due("19: no such one", x.when(2), -1);
        CHECK.due("19: no such one", x.when(-1), -1);
        DumbwaiterYoung y = Check.with("floor a music 1;floor b music 1;child c 1;child d 1;law faith 1;law music 60;");
        y.send(0, 1);
        CHECK.due("19: never", y.when(0), -1);
        longest();
        fewerLeft();
    }

    /** The second hears an hour each of manners, then of music, till it has 98 of both, and only then of faith. */
    private static void longest() {
        for (int law = 4; law <= 5; law++) {
            DumbwaiterYoung x = Check.with("floor a manners 9;floor b letters 1;floor d music 9;floor e faith 9;"
                + "child p 1;child q 1;rope 500;law faith " + law + ";");
            int[] rooms = {3, 4, 1};
            for (int f : rooms) {
                x.send(0, f);
                x.hours(11);
            }
            x.send(1, 2);
            CHECK.due("19: 200 HOURS at most", x.when(1), law == 4 ? 200 : -1);
            x.hours(1);
            CHECK.due("19: and one less", x.when(1), law == 4 ? 199 : 200);
        }
        DumbwaiterYoung y = Check.with("floor a music 1;child c 1;law music 60;");
        y.send(0, 1);
        CHECK.due("19: 60 HOURS", y.when(0), 60);
        y.hours(10);
        CHECK.due("19: 50 more", y.when(0), 50);
    }

    private static void fewerLeft() {
        DumbwaiterYoung x = Check.with("floor a music 1;child c 1;law music 5;");
        for (int i = 0; i < 6; i++) {
            x.hours(60);
        }
        x.hours(35);
        x.send(0, 1);
        CHECK.due("19: just as many are left", x.when(0), 5);
        x.send(0, 0);
        x.hours(1);
        x.send(0, 1);
        CHECK.due("19: fewer are left", x.when(0), -1);
        x.hours(4);
        CHECK.due("19: none is left", x.when(0), -1);
        DumbwaiterYoung y = Check.with("child c 1;");
        for (int i = 0; i < 7; i++) {
            y.hours(60);
        }
        CHECK.due("19: at the end, too", y.when(0), 0);
    }

    private static void plan() {
        DumbwaiterYoung x = Check.with("floor a music 2;floor b faith 3;floor d music 5;floor e letters 1;floor f manners 4;floor g music 5;"
            + "child c 1;law manners 9;law music 11;law faith 3;law letters 2;rope 500;");
        CHECK.due("22: ahead of any", x.passes(), -1);
        CHECK.due("21: ahead of any", x.planAt(0), -1);
        CHECK.due("20: 3, 3, 1 and 2 HOURS", x.plan(0), 9);
        orderIs(x, "from the cellar", 5, 2, 3, 4, 5);
        x.send(0, 6);
        CHECK.due("20: as many", x.plan(0), 9);
        orderIs(x, "from the top", 4, 5, 4, 3, 2);
        x.send(0, 4);
        x.plan(0);
        orderIs(x, "from the midst: up first or down first", 4, 4, 5, 3, 2);
        x.send(0, 3);
        x.hours(2);
        CHECK.due("20: 1 music is lacking", x.plan(0), 7);
        orderIs(x, "of like ways the least", 4, 2, 3, 4, 5);
        x.hours(1);
        CHECK.due("20: music is enough", x.plan(0), 6);
        orderIs(x, "three FLOORS", 4, 2, 4, 5);
        x.send(0, 1);
        CHECK.due("20: no such one", x.plan(1), -1);
        CHECK.due("20: no such one", x.plan(-1), -1);
        orderIs(x, "the latest stays", 4, 2, 4, 5);
        planEdges();
    }

    private static void orderIs(DumbwaiterYoung x, String what, int passes, int... floors) {
        CHECK.due("22: " + what, x.passes(), passes);
        for (int k = 0; k < floors.length; k++) {
            CHECK.due("21: " + what + " " + k, x.planAt(k), floors[k]);
        }
        CHECK.due("21: behind the last: " + what, x.planAt(floors.length), -1);
        CHECK.due("21: ahead of the first: " + what, x.planAt(-1), -1);
    }

    private static void planEdges() {
        DumbwaiterYoung x = Check.with("floor a music 2;floor b faith 1;floor d music 2;child c 1;child e 1;law music 2;law faith 1;rope 500;");
        CHECK.due("20: of like ones the first", x.plan(0), 2);
        orderIs(x, "the first music", 2, 1, 2);
        x.send(0, 2);
        x.plan(0);
        orderIs(x, "where it is", 1, 2, 1);
        x.send(0, 3);
        x.plan(0);
        orderIs(x, "not where it is, the first gives as much", 2, 2, 1);
        DumbwaiterYoung y = Check.with("floor a music 2;child c 1;child d 1;law music 2;law faith 1;");
        CHECK.due("20: nothing gives faith", y.plan(0), -1);
        CHECK.due("22: still ahead of any", y.passes(), -1);
        Check.tower(y, "floor a music 2;child c 1;child d 1;law music 3;");
        CHECK.due("20: 2 HOURS", y.plan(0), 2);
        y.send(0, 1);
        y.hours(2);
        y.serve(0);
        CHECK.due("20: served", y.plan(0), -1);
        orderIs(y, "the latest stays", 1, 1);
        y.send(1, 1);
        y.hours(2);
        CHECK.due("20: it LACKS nothing", y.plan(1), 0);
        orderIs(y, "no FLOOR", 0);
        Check.tower(y, "");
        CHECK.due("22: in another TOWER, too", y.passes(), 0);
        allOrders();
    }

    /** Every start and every four FLOORS against all orders tried plainly. */
    private static void allOrders() {
        String[] gifts = {"manners", "music", "faith", "letters"};
        int[] numbers = new int[4];
        for (int code = 0; code < 8 * 7 * 6 * 5; code += 3) {
            int rest = code;
            boolean[] used = new boolean[9];
            StringBuilder text = new StringBuilder();
            String[] floor = new String[9];
            for (int g = 0; g < 4; g++) {
                int pick = rest % (8 - g);
                rest /= 8 - g;
                int f = 1;
                while (used[f] || pick > 0) {
                    pick -= used[f] ? 0 : 1;
                    f++;
                }
                used[f] = true;
                numbers[g] = f;
                floor[f] = gifts[g] + " 9";
            }
            for (int f = 1; f <= 8; f++) {
                text.append("floor f").append((char) ('a' + f)).append(' ').append(floor[f] == null ? "music 1" : floor[f]).append(';');
            }
            text.append("child c 1;law manners 1;law music 1;law faith 1;law letters 1;rope 500;");
            DumbwaiterYoung x = Check.with(text.toString());
            int from = code % 9;
            x.send(0, from);
            x.plan(0);
            int[] best = new int[5];
            best[0] = Integer.MAX_VALUE;
            tryOrders(numbers, new int[4], 0, from, best);
            orderIs(x, "from " + from + " in " + text, best[0], best[1], best[2], best[3], best[4]);
        }
    }

    private static void tryOrders(int[] numbers, int[] order, int depth, int from, int[] best) {
        if (depth == 4) {
            int passes = 0;
            int at = from;
            for (int f : order) {
                passes += Math.abs(f - at);
                at = f;
            }
            boolean better = passes < best[0];
            for (int i = 0; i < 4 && passes == best[0]; i++) {
                if (order[i] != best[i + 1]) {
                    better = order[i] < best[i + 1];
                    break;
                }
            }
            if (better) {
                best[0] = passes;
                System.arraycopy(order, 0, best, 1, 4);
            }
            return;
        }
        for (int f : numbers) {
            boolean used = false;
            for (int i = 0; i < depth; i++) {
                used |= order[i] == f;
            }
            if (!used) {
                order[depth] = f;
                tryOrders(numbers, order, depth + 1, from, best);
            }
        }
    }

    private static void been() {
        DumbwaiterYoung x = Check.with("floor a music 2;floor b music 3;floor d faith 1;floor e music 5;");
        CHECK.due("24: ahead of any", x.beenAt(0), -1);
        CHECK.due("25: ahead of any", x.ask(), -1);
        CHECK.due("23: no row", Check.been(x, 2, 1, 0, 0, 0), 0);
        CHECK.due("25: still ahead of any", x.ask(), -1);
        CHECK.due("23: 2 and 3, or 5 and nothing", Check.been(x, 2, 0, 5, 0, 0), 4);
        rowIs(x, 0, 4);
        CHECK.due("25: either tells all", x.ask(), 0);
        CHECK.due("23: in one HOUR", Check.been(x, 1, 0, 5, 0, 0), 1);
        rowIs(x, 4);
        CHECK.due("23: too much", Check.been(x, 1, 0, 6, 0, 0), 0);
        rowIs(x, 4);
        CHECK.due("23: much too much", Check.been(x, 4, 255, 255, 255, 255), 0);
        CHECK.due("23: n 0", Check.been(x, 0, 0, 5, 0, 0), -1);
        CHECK.due("23: n 5", Check.been(x, 5, 0, 5, 0, 0), -1);
        CHECK.due("23: n -1", Check.been(x, -1, 0, 5, 0, 0), -1);
        Check.tape(x, "abc");
        CHECK.due("23: 3 bytes", x.been(1), -1);
        Check.tape(x, "abcde");
        CHECK.due("23: 5 bytes", x.been(1), -1);
        rowIs(x, 4);
        CHECK.due("23: nothing in 4 HOURS", Check.been(x, 4, 0, 0, 0, 0), 1);
        rowIs(x, 0, 0, 0, 0);
        CHECK.due("23: 3 HOURS of music, one of faith", Check.been(x, 4, 0, 6, 1, 0), 4 + 6 * 2);
        rowIs(x, 0, 2, 2, 3);
        Check.tower(x, "");
        rowIs(x, 0, 2, 2, 3);
        CHECK.due("25: in another TOWER, too", x.ask(), 0);
    }

    private static void rowIs(DumbwaiterYoung x, int... row) {
        for (int k = 0; k < row.length; k++) {
            CHECK.due("24: HOUR " + k, x.beenAt(k), row[k]);
        }
        CHECK.due("24: behind the last", x.beenAt(row.length), -1);
        CHECK.due("24: ahead of the first", x.beenAt(-1), -1);
    }

    /** All rows of some TOWERS tried plainly. */
    private static void allRows() {
        String[] towers = {
            "floor a music 1;floor b music 2;floor c music 3;floor d music 4;floor e music 5;floor f music 6;floor g music 7;floor h music 9;",
            "floor a manners 2;floor b manners 4;floor c letters 2;floor d faith 2;",
            "floor a letters 9;"};
        int[][] gives = {{1, 2, 3, 4, 5, 6, 7, 9}, {2, 4, 2, 2}, {9}};
        int[][] gifts = {{1, 1, 1, 1, 1, 1, 1, 1}, {0, 0, 3, 2}, {3}};
        for (int t = 0; t < towers.length; t++) {
            DumbwaiterYoung x = Check.with(towers[t]);
            for (int n = 1; n <= 4; n++) {
                for (int amount = 0; amount <= 36; amount += n) {
                    int[] wanted = new int[4];
                    wanted[gifts[t][0]] = amount;
                    wanted[2] = t == 1 ? amount % 4 : wanted[2];
                    oneOfAllRows(x, gives[t], gifts[t], n, wanted);
                }
            }
        }
    }

    private static void oneOfAllRows(DumbwaiterYoung x, int[] gives, int[] gifts, int n, int[] wanted) {
        int base = gives.length + 1;
        int codes = 1;
        for (int i = 0; i < n; i++) {
            codes *= base;
        }
        int rows = 0;
        int[] first = new int[n];
        int[][] seen = new int[n][base];
        for (int code = 0; code < codes; code++) {
            int[] row = new int[n];
            int[] has = new int[4];
            int rest = code;
            for (int i = n - 1; i >= 0; i--) {
                row[i] = rest % base;
                rest /= base;
                if (row[i] > 0) {
                    has[gifts[row[i] - 1]] += gives[row[i] - 1];
                }
            }
            if (java.util.Arrays.equals(has, wanted)) {
                first = rows == 0 ? row : first;
                rows++;
                for (int i = 0; i < n; i++) {
                    seen[i][row[i]]++;
                }
            }
        }
        CHECK.due("23: been", Check.been(x, n, wanted[0], wanted[1], wanted[2], wanted[3]), rows);
        if (rows > 0) {
            rowIs(x, first);
            int best = 0;
            for (int i = 1; i < n; i++) {
                if (java.util.Arrays.stream(seen[i]).max().getAsInt() < java.util.Arrays.stream(seen[best]).max().getAsInt()) {
                    best = i;
                }
            }
            CHECK.due("25: ask", x.ask(), best);
        }
    }

    private static void hung() {
        DumbwaiterYoung x = Check.with("child a 7;child b 1;child c 20;child d 3;uncle u 3;uncle v 4;uncle w 7;uncle y 6;uncle z 6;law music 1;");
        CHECK.due("27: ahead of any", x.hanging(), -1);
        CHECK.due("26: just so much", x.hung(0), 0);
        CHECK.due("27: the fewest", x.hanging(), 4);
        CHECK.due("26: nobody is best", x.hung(1), 1);
        CHECK.due("27: nobody", x.hanging(), 0);
        CHECK.due("26: 20", x.hung(2), 0);
        CHECK.due("27: 7, 7 of two and 6 are four, 4 and 3 and 7 and 6, too", x.hanging(), 1 | 2 | 4 | 8);
        CHECK.due("26: 3", x.hung(3), 0);
        CHECK.due("27: one", x.hanging(), 1);
        CHECK.due("26: no such one", x.hung(4), -1);
        CHECK.due("26: no such one", x.hung(-1), -1);
        CHECK.due("27: the latest stays", x.hanging(), 1);
        x.hang(0);
        x.hang(1);
        CHECK.due("26: whoever hangs now", x.hung(0), 0);
        CHECK.due("27: the same", x.hanging(), 4);
        DumbwaiterYoung y = Check.with("child a 6;child b 11;uncle u 5;uncle v 7;uncle w 5;");
        CHECK.due("26: too light or too heavy", y.hung(0), 1);
        CHECK.due("27: of like ones the least as bits", y.hanging(), 1);
        CHECK.due("26: 10 or 12", y.hung(1), 1);
        CHECK.due("27: of 3, 5 and 6 the least", y.hanging(), 3);
        y.serve(0);
        CHECK.due("26: a served one, too", y.hung(0), 1);
        DumbwaiterYoung z = Check.with("child a 6;");
        CHECK.due("26: without UNCLES", z.hung(0), 6);
        CHECK.due("27: nobody", z.hanging(), 0);
    }

    private static void holds() {
        DumbwaiterYoung x = Check.with("floor a music 1;floor b music 1;floor d music 1;child c 4;child e 9;uncle u 4;law faith 1;rope 40;");
        CHECK.due("28: 4 each", x.holds(0, 1), 10);
        CHECK.due("28: 8 each", x.holds(0, 2), 5);
        CHECK.due("28: 12 each", x.holds(0, 3), 4);
        CHECK.due("28: 27 each", x.holds(1, 3), 2);
        x.send(0, 3);
        CHECK.due("28: of 28, from the cellar all the same", x.holds(0, 1), 7);
        CHECK.due("28: of 28, 12 each", x.holds(0, 3), 3);
        x.hang(0);
        CHECK.due("28: never", x.holds(0, 3), 0);
        CHECK.due("28: 5 each", x.holds(1, 1), 6);
        CHECK.due("28: whoever is there", x.holds(1, 3), 2);
        CHECK.due("28: the cellar", x.holds(0, 0), -1);
        CHECK.due("28: no FLOOR", x.holds(0, 4), -1);
        CHECK.due("28: no FLOOR", x.holds(0, -1), -1);
        CHECK.due("28: no CHILD", x.holds(2, 1), -1);
        CHECK.due("28: no CHILD", x.holds(-1, 1), -1);
        DumbwaiterYoung y = Check.with("floor a music 1;child c 4;");
        y.serve(0);
        CHECK.due("28: served", y.holds(0, 1), -1);
    }

    private static void web() {
        StringBuilder text = new StringBuilder();
        for (int f = 0; f < 8; f++) {
            text.append("floor f").append((char) ('a' + f)).append(" music 1;");
        }
        for (int c = 0; c < 6; c++) {
            text.append("child c").append((char) ('a' + c)).append(" 1;");
        }
        DumbwaiterYoung x = Check.with(text + "rope 500;");
        CHECK.due("29: alone in the cellar", x.web(5), 32);
        int[] places = {6, 2, 4, 3, 8, 5};
        for (int c = 0; c < 6; c++) {
            x.send(c, places[c]);
        }
        int[] webs = {47, 47, 47, 47, 16, 47};
        for (int c = 0; c < 6; c++) {
            CHECK.due("29: web(" + c + ")", x.web(c), webs[c]);
        }
        x.send(2, 0);
        CHECK.due("29: apart", x.web(0), 33);
        CHECK.due("29: apart", x.web(1), 10);
        CHECK.due("29: itself", x.web(2), 4);
        x.serve(2);
        CHECK.due("29: served, itself", x.web(2), 4);
        x.send(1, 1);
        CHECK.due("29: next to the cellar is no FLOOR", x.web(1), 2);
        CHECK.due("29: no such one", x.web(6), -1);
        CHECK.due("29: no such one", x.web(-1), -1);
    }

    /** A row of NEIGHBOURS against their numbers: the farthest comes last. */
    private static void longWeb() {
        DumbwaiterYoung x = Check.with("floor a music 1;floor b music 1;floor c music 1;floor d music 1;floor e music 1;floor f music 1;"
            + "child g 1;child h 1;child i 1;child j 1;child k 1;child l 1;rope 500;");
        for (int c = 0; c < 6; c++) {
            x.send(c, 6 - c);
        }
        for (int c = 0; c < 6; c++) {
            CHECK.due("29: all", x.web(c), 63);
        }
    }

    public static void main(String[] args) {
        when();
        plan();
        been();
        allRows();
        hung();
        holds();
        web();
        longWeb();
        CHECK.finish();
    }
}
