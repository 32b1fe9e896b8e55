/** Promises 4 and 5: TOWERS, and the FAULTS of their texts. */
public final class TowerTest {
    private final Check check = new Check("TowerTest");
    private final DumbwaiterYoung x = Check.with(Check.HOUSE);

    private void fine(String text, int lines) {
        DumbwaiterYoung fresh = new DumbwaiterYoung();
        check.due("4: " + text, Check.tower(fresh, text), lines);
        check.due("5: " + text, fresh.fault(), 0);
    }

    /** A FAULT, behind which the TOWER is what it was. */
    private void fault(String text, int place, int kind) {
        check.due("4: " + text, Check.tower(x, text), -1 - place);
        check.due("5: " + text, x.fault(), kind);
        check.due("4: it stays: " + text, x.count(0) * 100 + x.count(1) * 10 + x.count(2), 432);
    }

    private void tokens() {
        fine("", 0);
        fine(" \n ", 0);
        fine("floor a music 1;", 1);
        fine("\nfloor\na  music\n1\n;\n", 1);
        fine("rope 010;", 1);
        fine("floor abcdefg letters 9 cold;", 1);
        fine("floor in faith 1;", 1);
        fault("floor abcdefgh music 1;", 6, 1);
        fault("floor a1 music 1;", 6, 1);
        fault("floor 1a music 1;", 6, 1);
        fault("floor a music 1cold;", 14, 1);
        fault("floor a music 0001;", 14, 1);
        fault("Floor a music 1;", 0, 1);
        fault("floor\ta music 1;", 5, 1);
        fault("floor a\rmusic 1;", 7, 1);
        fault("floor a music 1.", 15, 1);
        fault("floor a music 1;" + (char) 233, 16, 1);
        fault("floor a music 1;" + (char) 0, 16, 1);
        fault(";", 0, 1);
        fault("floor a music 1;;", 16, 1);
        fault("a", 0, 1);
        fault("send a b;", 0, 1);
        fault("floor", 5, 1);
        fault("floor ", 6, 1);
        fault("floor a", 7, 1);
        fault("floor a music", 13, 1);
        fault("floor a music 1", 15, 1);
        fault("floor a music 1 cold", 20, 1);
        fault("floor a music 1 cold  ", 22, 1);
        fault("floor a music 1 cold cold;", 21, 1);
        fault("floor a music cold;", 14, 1);
        fault("floor a music <;", 14, 1);
        fault("child a 1 cold;", 10, 1);
        fault("child a;", 7, 1);
        fault("uncle 5 5;", 6, 1);
        fault("law 5 5;", 4, 1);
        fault("law cold 5;", 4, 1);
        fault("law weight 5;", 4, 1);
        fault("rope;", 4, 1);
        fault("rope a;", 5, 1);
        fault("grow (;", 5, 1);
    }

    private void words() {
        String[] told = {"floor", "cold", "child", "uncle", "law", "likes", "rope", "grow", "manners", "music", "faith",
            "letters", "send", "cellar", "hang", "take", "serve", "back", "hour", "or", "and", "not", "served", "ready",
            "talks", "on", "lacks", "weight", "shy", "fell", "number"};
        for (String word : told) {
            fault("floor " + word + " music 1;", 6, 1);
            fault("child " + word + " 1;", 6, 1);
            fault("uncle " + word + " 1;", 6, 1);
            fault("likes " + word + " x 1;", 6, 1);
            fault("floor x music 1;likes x " + word + " 1;", 24, 1);
        }
    }

    private void numbers() {
        String[] lines = {"floor a faith ", "child a ", "uncle a ", "law faith ", "floor f faith 1;child c 1;likes f c ", "rope ", "grow "};
        int[] least = {1, 1, 1, 1, 1, 10, 1};
        int[] most = {9, 20, 20, 60, 9, 500, 48};
        for (int i = 0; i < lines.length; i++) {
            int count = i == 4 ? 3 : 1;
            fine(lines[i] + least[i] + ";", count);
            fine(lines[i] + most[i] + ";", count);
            fault(lines[i] + (least[i] - 1) + ";", lines[i].length(), 2);
            fault(lines[i] + (most[i] + 1) + ";", lines[i].length(), 2);
            fault(lines[i] + "999;", lines[i].length(), 2);
            fault(lines[i] + "999", lines[i].length(), 2);
        }
    }

    private void names() {
        fault("floor a music 1;floor a music 1;", 22, 3);
        fault("floor a music 1;child a 1;", 22, 3);
        fault("child a 1;uncle a 1;", 16, 3);
        fault("uncle a 1;floor a music 1;", 16, 3);
        fault("child a 1;child a 1;", 16, 3);
        fault("uncle a 1;uncle a 1;", 16, 3);
        fine("floor a music 1;floor aa music 1;child aaa 1;", 3);
        fault("law music 1;law faith 1;law music 0;", 28, 3);
        fine("law music 1;law faith 1;law manners 1;law letters 1;", 4);
        fault("rope 10;grow 1;rope 9;", 15, 3);
        fault("grow 1;rope 10;grow 99;", 15, 3);
        String two = "floor f music 1;floor g music 1;child c 1;child d 1;uncle u 1;";
        fault(two + "likes c f 1;", 68, 3);
        fault(two + "likes u c 1;", 68, 3);
        fault(two + "likes f g 1;", 70, 3);
        fault(two + "likes f u 1;", 70, 3);
        fault(two + "likes f x 1;", 70, 3);
        fault(two + "likes x c 1;", 68, 3);
        fault(two + "likes f 1 1;", 70, 1);
        fine(two + "likes f c 1;likes f d 1;likes g c 1;likes g d 1;", 9);
        fault(two + "likes f c 1;likes f d 1;likes g c 1;likes f c 0;", 106, 3);
        fault("child c 1;likes f c 1;floor f music 1;", 16, 3);
    }

    private void sorts() {
        String floors = "";
        String children = "";
        String uncles = "";
        for (int i = 0; i < 8; i++) {
            floors += "floor f" + (char) ('a' + i) + " music 1;";
        }
        for (int i = 0; i < 6; i++) {
            children += "child c" + (char) ('a' + i) + " 1;";
        }
        for (int i = 0; i < 5; i++) {
            uncles += "uncle u" + (char) ('a' + i) + " 1;";
        }
        fine(floors + children + uncles, 19);
        fault(floors + children + uncles + "floor x music 1;", 17 * 8 + 11 * 11, 4);
        fault(floors + children + uncles + "child x 1;", 17 * 8 + 11 * 11, 4);
        fault(floors + children + uncles + "uncle x 1;", 17 * 8 + 11 * 11, 4);
        fault(floors + "floor floor", 17 * 8, 4);
        fault(children + "child;", 11 * 6, 4);
        fault(uncles + "uncle fa", 11 * 5, 4);
    }

    private void bytes() {
        String line = "rope 10;";
        fine(line + " ".repeat(892), 1);
        fault(line + " ".repeat(893), 900, 1);
        fault(line + " ".repeat(932), 900, 1);
        fault(line + " ".repeat(891) + "x" + " ".repeat(5), 899, 1);
        fault(line + " ".repeat(892) + "x", 900, 1);
        fault(line + " ".repeat(890) + "rope 10;", 898, 3);
        fault(line + " ".repeat(891) + "grow 10;", 900, 1);
        fault(line + " ".repeat(886) + "grow 10;", 900, 1);
        fault(line + " ".repeat(884) + "grow 099;", 897, 2);
        fault(line + " ".repeat(887) + "grow 10;", 900, 1);
        fine(line + " ".repeat(884) + "grow 10;", 2);
        fault(line + " ".repeat(884) + "grow 10; ", 900, 1);
        fault(line + " ".repeat(885) + "grow 10;", 900, 1);
        fault(line + " ".repeat(886) + "grow 10", 900, 1);
        fault(line + " ".repeat(890) + "abcdefghij", 898, 1);
        fault("rope 9;" + " ".repeat(900), 5, 2);
        fault(line + " ".repeat(885) + "rope 10", 893, 3);
        fault("rope 10" + " ".repeat(893), 900, 1);
        fault("rope 10" + " ".repeat(890), 897, 1);
    }

    private void newTower() {
        DumbwaiterYoung y = Check.with(Check.HOUSE);
        Check.sentence(y, "ready");
        y.send(0, 2);
        y.hang(1);
        y.hours(5);
        y.send(2, 4);
        y.send(1, 3);
        y.send(1, 0);
        check.yes("the rope ran ahead of that", y.now(2) > 0 && Check.child(y, 0, 4) + Check.child(y, 1, 4) > 0);
        check.due("4: the same TOWER, new", Check.tower(y, Check.HOUSE), 15);
        check.yes("4: all is new", Check.all(y).equals(Check.all(Check.with(Check.HOUSE))));
        check.due("4: no SENTENCE", y.said(-1), -1);
        check.due("18: nothing is left to undo", y.undo(), -1);
        check.due("4: a lesser TOWER", Check.tower(y, "floor q letters 7;"), 1);
        check.due("no law", y.law(0) + y.law(1) + y.law(2) + y.law(3), 0);
        check.due("the usual rope", y.count(3), 100);
        check.due("the usual grow", y.count(4), 6);
        check.due("no CHILD", y.count(1), 0);
        check.due("no UNCLE", y.count(2), 0);
        check.due("one FLOOR", y.count(0), 1);
        check.due("4: the likes of an earlier TOWER are gone", Check.tower(y, "floor one manners 3;child tom 6;child ann 9;"), 3);
        y.bargain();
        check.due("so the first is ahead", y.bargained(0), 1);
        check.due("5: no FAULT", y.fault(), 0);
        Check.tower(y, "x");
        check.due("5: a FAULT", y.fault(), 1);
        Check.tower(y, "");
        check.due("5: the latest alone counts", y.fault(), 0);
        check.due("4: an empty TOWER", y.count(0) + y.count(1) + y.count(2), 0);
    }

    public static void main(String[] args) {
        TowerTest test = new TowerTest();
        test.tokens();
        test.words();
        test.numbers();
        test.names();
        test.sorts();
        test.bytes();
        test.newTower();
        test.check.finish();
    }
}
