/** Edges of a BOOK's text (==== 1), promises 36, 37 and 5: each case names the words of the document that it is about. */
public final class BookEdgesTest {
    private static final Check CHECK = new Check("BookEdgesTest");
    private static final String HOUSE = "floor one music 2;floor two faith 1;child tom 5;child ann 6;uncle ned 4;uncle sam 5;law music 2;";

    private static DumbwaiterYoung fine(String what, String text, int answer) {
        DumbwaiterYoung x = Check.with(HOUSE);
        CHECK.due("inside, book(0): " + what, Check.book(x, text, 0), answer);
        CHECK.due("inside, fault(): " + what, x.fault(), 0);
        return x;
    }

    private static void faulty(String what, String text, int place, int kind) {
        DumbwaiterYoung x = Check.with(HOUSE);
        for (int lives = 0; lives <= 1; lives++) {
            x.hang(0);
            String was = Check.all(x);
            CHECK.due("outside, book(" + lives + "): " + what, Check.book(x, text, lives), -2 - place);
            CHECK.due("outside, fault(): " + what, x.fault(), kind);
            CHECK.yes("outside, nothing of it is lived: " + what, was.equals(Check.all(x)));
            CHECK.due("outside, nothing of it is told: " + what, x.told(1), -1);
            CHECK.due("outside, nothing of it is undone: " + what, x.undo(), 0);
            CHECK.due("outside, the tape is empty: " + what, x.count(5), 0);
        }
    }

    private static void bytes() {
        CHECK.about(36, "A BOOK is a text of at most 400 bytes");
        fine("400, the last a blank", "hour 1;" + " ".repeat(393), -1);
        fine("400, the last an end", " ".repeat(393) + "hour 1;", -1);
        faulty("401, the last a blank", "hour 1;" + " ".repeat(394), 400, 1);
        faulty("401, the last an end", " ".repeat(394) + "hour 1;", 400, 1);
        faulty("940", "hour 1;" + " ".repeat(933), 400, 1);
        CHECK.about(36, "the most bytes told, if there are more and no FAULT is ahead: TOKENS that begin ahead of it are read whole");
        faulty("a FAULT at 399", " ".repeat(399) + "?" + " ".repeat(9), 399, 1);
        faulty("a FAULT at 400 is that of the bytes", " ".repeat(400) + "?", 400, 1);
        faulty("a WORD from 399 on, read whole", " ".repeat(399) + "hour 1;", 400, 1);
        faulty("a NUMBER from 399 on, read whole: 60", "hour" + " ".repeat(395) + "60;", 400, 1);
        faulty("a NUMBER from 399 on, read whole: 61", "hour" + " ".repeat(395) + "61;", 399, 2);
        faulty("a NUMBER from 400 on is not read", "hour" + " ".repeat(396) + "61;", 400, 1);
        faulty("a NAME from 399 on, read whole: told", "hang" + " ".repeat(395) + "ned;", 400, 1);
        faulty("a NAME from 399 on, read whole: not told", "hang" + " ".repeat(395) + "nedd;", 399, 3);
        faulty("from 399 on, read whole: no TOKEN", "hang" + " ".repeat(395) + "ned1;", 399, 1);
        CHECK.about(36, "the end: how many bytes there are");
        faulty("4", "hour", 4, 1);
        faulty("5, the last a blank", "hour ", 5, 1);
        faulty("400", "hour 1" + " ".repeat(394), 400, 1);
        faulty("399", "hour 1" + " ".repeat(393), 399, 1);
    }

    private static void lines() {
        CHECK.about(36, "{ LINE ; }, 40 at most");
        DumbwaiterYoung x = fine("none", "", -1);
        CHECK.due("none", x.told(1), 0);
        x = fine("blanks alone", " \n ", -1);
        CHECK.due("none", x.told(1), 0);
        x = fine("39", "hour 1;".repeat(39), -1);
        CHECK.due("39", x.told(1), 39);
        x = fine("40", "hour 1;".repeat(40), -1);
        CHECK.due("40", x.told(1), 40);
        faulty("41", "hour 1;".repeat(41), 280, 4);
        faulty("42", "hour 1;".repeat(42), 280, 4);
        faulty("an end without a LINE", ";", 0, 1);
        faulty("two ends", "hour 1;;", 7, 1);
        CHECK.about(36, "a 41st LINE of a BOOK (at the LINE's first WORD)");
        String forty = "hour 1;".repeat(40);
        String[] begins = {"send", "hang", "take", "serve", "back", "hour"};
        for (String word : begins) {
            faulty(word, forty + "  " + word, 282, 4);
            faulty(word + ", ahead of what can't come", forty + word + " ?", 280, 4);
        }
        String[] others = {"tom", "cellar", "rope", "music", "served", "1", ";", "?", "HOUR"};
        for (String word : others) {
            faulty(word + " can't come, the least", forty + word, 280, 1);
        }
        faulty("a FAULT in the 40th", "hour 1;".repeat(39) + "hour 0;hour 1;", 278, 2);
    }

    private static void hours() {
        CHECK.about(36, "'hour' N (1 to 60)");
        CHECK.due("1", fine("1", "hour 1;", -1).told(2), 1);
        CHECK.due("60", fine("60", "hour 60;", -1).told(2), 60);
        CHECK.due("060", fine("060", "hour 060;", -1).told(2), 60);
        faulty("0", "hour 0;", 5, 2);
        faulty("000", "hour 000;", 5, 2);
        faulty("61", "hour 61;", 5, 2);
        faulty("999", "hour 999;", 5, 2);
        faulty("0060", "hour 0060;", 5, 1);
        faulty("none", "hour ;", 5, 1);
        faulty("two", "hour 1 1;", 7, 1);
    }

    private static void names() {
        CHECK.about(36, "'send' CHILD TO (TO: a FLOOR, 'cellar')");
        fine("the first FLOOR", "send tom one;", -1);
        fine("the last FLOOR", "send ann two;", -1);
        DumbwaiterYoung x = fine("the cellar, where it is", "send tom cellar;", 0);
        CHECK.due("it is there", x.told(0), 2);
        faulty("TO: a CHILD", "send tom ann;", 9, 3);
        faulty("TO: an UNCLE", "send tom ned;", 9, 3);
        faulty("TO: not told", "send tom three;", 9, 3);
        faulty("TO: no NAME", "send tom floor;", 9, 1);
        faulty("TO: a NUMBER", "send tom 1;", 9, 1);
        faulty("TO: none", "send tom;", 8, 1);
        faulty("TO: two", "send tom one two;", 13, 1);
        String[] deeds = {"send", "serve", "back", "hang", "take"};
        int[] wants = {0, 0, 0, 1, 1};
        for (int i = 0; i < deeds.length; i++) {
            int at = deeds[i].length() + 1;
            CHECK.about(5, "not told, or of another sort");
            faulty(deeds[i] + " one", deeds[i] + " one one;", at, 3);
            faulty(deeds[i] + " of another sort", deeds[i] + (wants[i] == 0 ? " ned" : " tom") + " one;", at, 3);
            faulty(deeds[i] + " not told", deeds[i] + " x one;", at, 3);
            CHECK.about(5, "1 no TOKEN, or one that can't come (at it;");
            faulty(deeds[i] + " cellar", deeds[i] + " cellar one;", at, 1);
            faulty(deeds[i] + " served", deeds[i] + " served one;", at, 1);
            faulty(deeds[i] + " 1", deeds[i] + " 1 one;", at, 1);
            faulty(deeds[i], deeds[i], at - 1, 1);
        }
    }

    private static void lives() {
        CHECK.about(36, "it is judged, all staying as it is (lives 0), or lived as far as it is not WRONG (1)");
        DumbwaiterYoung x = Check.with(HOUSE);
        String was = Check.all(x);
        CHECK.due("judged", Check.book(x, "hang ned;hour 2;", 0), -1);
        CHECK.yes("judged: all stays", was.equals(Check.all(x)));
        CHECK.due("judged: nothing to undo", x.undo(), -1);
        CHECK.due("lived", Check.book(x, "hang ned;hour 2;", 1), -1);
        CHECK.due("lived: it is so", x.now(0) * 10 + x.uncle(0, 1), 21);
        CHECK.due("lived, WRONG in the third LINE", Check.book(x, "take ned;hour 1;take ned;hour 9;", 1), 2);
        CHECK.due("lived: two LINES of it", x.now(0) * 10 + x.uncle(0, 1), 30);
        CHECK.about(36, "-1000: another lives (the tape stays)");
        int[] others = {-1, 2, 3, Integer.MIN_VALUE, Integer.MAX_VALUE};
        for (int lives : others) {
            was = Check.all(x);
            CHECK.due("book(" + lives + ")", Check.book(x, "hour 1;", lives), -1000);
            CHECK.due("the tape stays", x.count(5), 7);
            CHECK.yes("nothing is lived", was.equals(Check.all(x)));
            CHECK.due("nothing is told", x.told(1), 2);
        }
        CHECK.due("the tape that stayed is the BOOK then", x.book(1), -1);
        CHECK.due("lived", x.now(0), 4);
        CHECK.due("the tape is empty then", x.count(5), 0);
        CHECK.due("the empty tape is an empty BOOK", x.book(0), -1);
        CHECK.due("of no LINE", x.told(1), 0);
    }

    private static void wrongLine() {
        CHECK.about(36, "the LINE that is WRONG; NONE: none; -2 less the place of a FAULT");
        fine("none", "hour 1;", -1);
        fine("the first", "back tom;hour 1;", 0);
        fine("the second", "hour 1;back tom;back tom;", 1);
        fine("the last of 40", "hour 1;".repeat(39) + "back ann;", 39);
        DumbwaiterYoung x = Check.with(HOUSE);
        CHECK.due("a FAULT at 0", Check.book(x, "?", 0), -2);
        CHECK.due("a FAULT at 1", Check.book(x, " ?", 0), -3);
        CHECK.due("a FAULT at 400", Check.book(x, " ".repeat(401), 0), -402);
        CHECK.due("a FAULT behind a WRONG LINE", Check.book(x, "back tom;?", 1), -11);
    }

    private static void why(String what, String text, int line, int reason) {
        DumbwaiterYoung x = fine(what, text, line);
        CHECK.due("why: " + what, x.told(0), reason);
        CHECK.due("LINES that are not: " + what, x.told(1), line);
    }

    private static void whyWrong() {
        CHECK.about(37, "0 why it was WRONG (0: it was not; 1 to 3 as for sending, 11 hanging, 21 taking, 31, 32 serving, 41 for back; 51: fewer HOURS are left)");
        String serve = "send tom one;hour 1;serve tom;";
        CHECK.due("it was not", fine("it was not", serve, -1).told(0), 0);
        why("served, sent", serve + "send tom one;", 3, 1);
        why("served, sent to the cellar", serve + "send tom cellar;", 3, 1);
        why("served, sent where another one is", serve + "send ann one;send tom one;", 4, 1);
        why("it is there", "send tom one;send tom one;", 1, 2);
        why("another one is there", "send tom one;send ann one;", 1, 3);
        why("hanging", "hang ned;hang sam;hang ned;", 2, 11);
        why("taking", "hang ned;take sam;", 1, 21);
        why("serving again", serve + "serve tom;", 3, 31);
        why("serving one that LACKS", "serve tom;", 0, 32);
        why("back", "back tom;", 0, 41);
        why("back again", serve + "back tom;back tom;", 4, 41);
        String most = "hour 60;".repeat(6);
        CHECK.due("just as many HOURS are left", fine("400", most + "hour 40;", -1).told(2), 400);
        why("one HOUR fewer is left", most + "hour 41;", 6, 51);
        why("none is left", most + "hour 40;hour 1;", 7, 51);
        why("one is left, one goes", most + "hour 39;hour 1;hour 1;", 8, 51);
        DumbwaiterYoung x = Check.with(HOUSE);
        CHECK.due("lived", Check.book(x, most + "hour 41;", 1), 6);
        CHECK.due("of a LINE that is WRONG no HOUR goes", x.now(0), 360);
    }

    private static void told() {
        CHECK.about(37, "1 LINES that are not, 2 the HOUR then, 3 who is served then, as bits. NONE: another what, or ahead of any");
        DumbwaiterYoung x = Check.with(HOUSE);
        for (int what = -2; what <= 5; what++) {
            CHECK.due("ahead of any: told(" + what + ")", x.told(what), -1);
        }
        Check.book(x, "send ann one;hour 1;serve ann;hour 3;back tom;hour 1;", 0);
        int[] due = {41, 4, 4, 2};
        for (int what = 0; what <= 3; what++) {
            CHECK.due("told(" + what + ")", x.told(what), due[what]);
        }
        int[] others = {-1, 4, Integer.MIN_VALUE, Integer.MAX_VALUE};
        for (int what : others) {
            CHECK.due("another what: told(" + what + ")", x.told(what), -1);
        }
        CHECK.about(37, "Of the latest book() that had no FAULT (and was not -1000)");
        Check.book(x, "hour 9;?", 1);
        CHECK.due("a FAULT leaves it", x.told(0) * 100 + x.told(2) * 10 + x.told(3), 4142);
        x.book(2);
        CHECK.due("-1000 leaves it", x.told(0) * 100 + x.told(2) * 10 + x.told(3), 4142);
        Check.book(x, "", 0);
        CHECK.due("an empty one does not", x.told(0) * 100 + x.told(2) * 10 + x.told(3), 0);
        CHECK.due("of no LINE", x.told(1), 0);
        Check.book(x, "hour 5;", 1);
        x.undo();
        Check.tower(x, "");
        CHECK.due("undo() and tower() leave it", x.told(2), 5);
    }

    public static void main(String[] args) {
        bytes();
        lines();
        hours();
        names();
        lives();
        wrongLine();
        whyWrong();
        told();
        CHECK.finish();
    }
}
