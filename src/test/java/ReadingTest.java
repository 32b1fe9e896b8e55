/** Promises 6 to 11: what is told of CHILDREN, FLOORS, UNCLES, the law and now. */
public final class ReadingTest {
    private static final Check CHECK = new Check("ReadingTest");

    private static void children() {
        DumbwaiterYoung x = Check.with(Check.HOUSE);
        int[] ann = {0, 9, 0, 0, 0, 3, 0};
        for (int what = 0; what < ann.length; what++) {
            CHECK.due("6: child(1, " + what + ")", Check.child(x, 1, what), ann[what]);
        }
        int[][] none = {{-1, 0}, {3, 0}, {0, -1}, {0, 7}, {Integer.MAX_VALUE, 0}, {Integer.MIN_VALUE, 0}, {0, Integer.MAX_VALUE}, {0, Integer.MIN_VALUE}, {3, 7}};
        for (int[] args : none) {
            CHECK.due("6: child(" + args[0] + ", " + args[1] + ")", Check.child(x, args[0], args[1]), Check.THROWN);
        }
        x.send(0, 2);
        x.send(1, 3);
        x.send(2, 1);
        CHECK.due("6: the rope ran under bob", Check.child(x, 2, 4), 1);
        x.send(2, 1);
        x.hours(5);
        CHECK.due("6: where tom is", Check.child(x, 0, 0), 2);
        CHECK.due("6: tom's WEIGHT", Check.child(x, 0, 1), 7);
        CHECK.due("6: tom's AGE", Check.child(x, 0, 2), 5);
        CHECK.due("6: tom's SHYNESS", Check.child(x, 0, 3), 5);
        CHECK.due("6: tom never fell", Check.child(x, 0, 4), 0);
        CHECK.due("6: bob's WEIGHT", Check.child(x, 2, 1), 6);
        CHECK.due("6: bob's NEIGHBOURS", Check.child(x, 2, 6), 1);
        CHECK.due("6: tom's NEIGHBOURS", Check.child(x, 0, 6), 6);
        CHECK.due("6: ann's NEIGHBOURS", Check.child(x, 1, 6), 1);
        CHECK.due("6: ann is not shy, tri is not cold", Check.child(x, 1, 3), 0);
        x.send(2, 0);
        CHECK.due("6: from the cellar nobody is next to the first FLOOR", Check.child(x, 2, 6), 0);
        x.send(0, 1);
        CHECK.due("6: nor from the first FLOOR to the cellar", Check.child(x, 0, 6), 0);
        lacks();
        wrongOnes(x);
    }

    private static void lacks() {
        DumbwaiterYoung x = Check.with("floor a music 3;child c 1;law manners 1;law music 6;law letters 2;");
        CHECK.due("6: LACKS", Check.child(x, 0, 5), 11);
        x.send(0, 1);
        x.hours(1);
        CHECK.due("6: 3 of 6", Check.child(x, 0, 5), 11);
        x.hours(1);
        CHECK.due("6: 6 of 6", Check.child(x, 0, 5), 9);
    }

    private static void wrongOnes(DumbwaiterYoung x) {
        int[][] none = {{-1, 0}, {3, 0}, {0, -1}, {0, 4}, {Integer.MIN_VALUE, Integer.MAX_VALUE}};
        for (int[] args : none) {
            CHECK.due("7: has(" + args[0] + ", " + args[1] + ")", x.has(args[0], args[1]), -1);
        }
        int[][] noFloor = {{-1, 0}, {0, 0}, {0, 3}, {5, 0}, {1, -1}, {1, 4}, {Integer.MAX_VALUE, 0}, {1, Integer.MIN_VALUE}};
        for (int[] args : noFloor) {
            CHECK.due("8: floor(" + args[0] + ", " + args[1] + ")", x.floor(args[0], args[1]), -1);
        }
        int[][] noUncle = {{-1, 0}, {2, 0}, {0, -1}, {0, 2}, {Integer.MAX_VALUE, 0}, {0, Integer.MIN_VALUE}};
        for (int[] args : noUncle) {
            CHECK.due("9: uncle(" + args[0] + ", " + args[1] + ")", x.uncle(args[0], args[1]), -1);
        }
        CHECK.due("10: law(-1)", x.law(-1), -1);
        CHECK.due("10: law(4)", x.law(4), -1);
        CHECK.due("11: now(-1)", x.now(-1), -1);
        CHECK.due("11: now(8)", x.now(8), -1);
    }

    private static void giftsFloorsUncles() {
        DumbwaiterYoung x = Check.with("floor a manners 1;floor b music 2 cold;floor c faith 3;floor d letters 4 cold;"
            + "child e 1;child f 2;uncle g 7;uncle h 20;law faith 60;law letters 1;");
        int[][] floors = {{0, 1, 0}, {1, 2, 1}, {2, 3, 0}, {3, 4, 1}};
        for (int f = 1; f <= 4; f++) {
            for (int what = 0; what < 3; what++) {
                CHECK.due("8: floor(" + f + ", " + what + ")", x.floor(f, what), floors[f - 1][what]);
            }
            CHECK.due("8: nobody is on it", x.floor(f, 3), -1);
        }
        x.send(1, 4);
        CHECK.due("8: who is on it", x.floor(4, 3), 1);
        x.send(0, 1);
        CHECK.due("8: the first CHILD is", x.floor(1, 3), 0);
        x.hours(2);
        CHECK.due("7: has letters", x.has(1, 3), 8);
        CHECK.due("7: has manners", x.has(0, 0), 2);
        CHECK.due("7: has none", x.has(0, 3), 0);
        CHECK.due("9: WEIGHT", x.uncle(0, 0), 7);
        CHECK.due("9: WEIGHT of the other one", x.uncle(1, 0), 20);
        x.hang(1);
        CHECK.due("9: he hangs", x.uncle(1, 1), 1);
        CHECK.due("9: he does not", x.uncle(0, 1), 0);
        CHECK.due("10: law of manners", x.law(0), 0);
        CHECK.due("10: law of music", x.law(1), 0);
        CHECK.due("10: law of faith", x.law(2), 60);
        CHECK.due("10: law of letters", x.law(3), 1);
    }

    private static void now() {
        DumbwaiterYoung x = Check.with("floor a music 3;floor b music 3;floor c faith 1;child e 5;child f 6;child g 7;"
            + "uncle u 2;uncle v 3;law music 3;rope 30;");
        x.send(0, 1);
        x.send(1, 3);
        CHECK.due("11: WEAR 5 and 3 times 6", x.now(1), 23);
        x.send(2, 2);
        CHECK.due("11: the rope RAN", x.now(2), 1);
        CHECK.due("11: a new rope", x.now(1), 0);
        CHECK.due("11: FLOORS passed", x.now(7), 6);
        CHECK.due("11: who is on a FLOOR", x.now(6), 3);
        x.hours(1);
        CHECK.due("11: the HOUR", x.now(0), 1);
        CHECK.due("11: who is ready", x.now(5), 1);
        CHECK.due("11: who is served", x.now(4), 0);
        x.serve(0);
        CHECK.due("11: served, no more ready", x.now(5), 0);
        CHECK.due("11: who is served then", x.now(4), 1);
        CHECK.due("11: who is on a FLOOR then", x.now(6), 2);
        x.hang(1);
        CHECK.due("11: BALANCE", x.now(3), 3);
        x.hang(0);
        CHECK.due("11: BALANCE of both", x.now(3), 5);
        x.take(1);
        CHECK.due("11: BALANCE of the other one", x.now(3), 2);
        x.send(1, 0);
        CHECK.due("11: FLOORS passed down", x.now(7), 9);
        CHECK.due("11: WEAR by the BALANCE", x.now(1), 12);
    }

    public static void main(String[] args) {
        children();
        giftsFloorsUncles();
        now();
        CHECK.finish();
    }
}
