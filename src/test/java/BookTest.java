/** Promises 36 and 37: BOOKS, judged and lived. */
public final class BookTest {
    private static final Check CHECK = new Check("BookTest");

    private static void toldIs(DumbwaiterYoung x, String what, int why, int lines, int hour, int served) {
        CHECK.due("37: why, " + what, x.told(0), why);
        CHECK.due("37: LINES, " + what, x.told(1), lines);
        CHECK.due("37: the HOUR, " + what, x.told(2), hour);
        CHECK.due("37: who is served, " + what, x.told(3), served);
        CHECK.due("37: another what", x.told(4), -1);
        CHECK.due("37: another what", x.told(-1), -1);
    }

    private static void judged() {
        DumbwaiterYoung x = Check.with(Check.HOUSE);
        toldIs(x, "ahead of any", -1, -1, -1, -1);
        String was = Check.all(x);
        CHECK.due("36: none is WRONG", Check.book(x, "send tom two;hour 2;hang sam;send tom qua;hour 2;serve tom;", 0), -1);
        toldIs(x, "all of it", 0, 6, 4, 1);
        CHECK.yes("36: all stays", was.equals(Check.all(x)));
        CHECK.due("18: nothing to undo", x.undo(), -1);
        String[] books = {"send tom two;hour 1;send ann two;hour 1;", "send tom cellar;", "hang ned;hang ned;", "hang ned;take ned;take ned;",
            "serve tom;", "hour 3;back tom;", "hour 60;hour 60;hour 60;hour 60;hour 60;hour 60;hour 40;hour 1;", "hour 60;hour 60;hour 60;hour 60;hour 60;hour 60;hour 41;"};
        int[][] due = {{2, 3, 1}, {0, 2, 0}, {1, 11, 0}, {2, 21, 0}, {0, 32, 0}, {1, 41, 3}, {7, 51, 400}, {6, 51, 360}};
        for (int i = 0; i < books.length; i++) {
            CHECK.due("36: " + books[i], Check.book(x, books[i], 0), due[i][0]);
            toldIs(x, books[i], due[i][1], due[i][0], due[i][2], 0);
        }
        CHECK.yes("36: all stays", was.equals(Check.all(x)));
        String served = "send tom two;hour 2;hang sam;send tom qua;hour 2;serve tom;";
        CHECK.due("36: sent, though served", Check.book(x, served + "send tom one;", 0), 6);
        toldIs(x, "sent, though served", 1, 6, 4, 1);
        CHECK.due("36: served again", Check.book(x, served + "serve tom;", 0), 6);
        toldIs(x, "served again", 31, 6, 4, 1);
        CHECK.due("36: back", Check.book(x, served + "back tom;send tom one;", 0), -1);
        toldIs(x, "back", 0, 8, 4, 0);
        CHECK.due("36: an empty one", Check.book(x, "", 0), -1);
        toldIs(x, "an empty one", 0, 0, 0, 0);
    }

    private static void lived() {
        DumbwaiterYoung x = Check.with(Check.HOUSE);
        DumbwaiterYoung y = Check.with(Check.HOUSE);
        String was = Check.all(x);
        CHECK.due("36: lived", Check.book(x, "hang sam;send tom qua;hour 2;take sam;send tom two;hour 2;serve tom;back tom;", 1), -1);
        y.hang(1);
        y.send(0, 4);
        y.hours(2);
        y.take(1);
        y.send(0, 2);
        y.hours(2);
        y.serve(0);
        y.back(0);
        CHECK.yes("36: as by single calls", Check.all(x).equals(Check.all(y)));
        String then = Check.all(x);
        CHECK.due("36: as far as it is not WRONG", Check.book(x, "hour 1;send ann one;serve ann;hour 9;", 1), 2);
        toldIs(x, "as far as it is not WRONG", 32, 2, 5, 0);
        y.hours(1);
        y.send(1, 1);
        CHECK.yes("36: as by single calls", Check.all(x).equals(Check.all(y)));
        CHECK.due("36: judged, not lived", Check.book(x, "hour 9;", 0), -1);
        CHECK.due("18: a BOOK is undone as one", x.undo(), 1);
        CHECK.yes("18: as it was", then.equals(Check.all(x)));
        CHECK.due("18: the first one", x.undo(), 0);
        CHECK.yes("18: as it was", was.equals(Check.all(x)));
        toldIs(x, "what was told stays", 0, 1, 14, 0);
    }

    private static void fault(DumbwaiterYoung x, String text, int place, int kind) {
        String was = Check.all(x);
        CHECK.due("36: " + text, Check.book(x, text, 1), -2 - place);
        CHECK.due("5: " + text, x.fault(), kind);
        CHECK.yes("36: nothing changed", was.equals(Check.all(x)));
        toldIs(x, "the latest without a FAULT", 0, 2, 3, 0);
    }

    private static void faults() {
        DumbwaiterYoung x = Check.with(Check.HOUSE);
        CHECK.due("36: fine", Check.book(x, "send tom two;hour 3;", 0), -1);
        CHECK.due("5: fine", x.fault(), 0);
        fault(x, "hour 1;hour", 11, 1);
        fault(x, "hour 1", 6, 1);
        fault(x, "hour one;", 5, 1);
        fault(x, "hour 0;", 5, 2);
        fault(x, "hour 61;", 5, 2);
        fault(x, "hour 1000;", 5, 1);
        fault(x, ";", 0, 1);
        fault(x, "tom;", 0, 1);
        fault(x, "rope 20;", 0, 1);
        fault(x, "cellar;", 0, 1);
        fault(x, "send cellar one;", 5, 1);
        fault(x, "send tom;", 8, 1);
        fault(x, "send tom one two;", 13, 1);
        fault(x, "send tom music;", 9, 1);
        fault(x, "send tom ann;", 9, 3);
        fault(x, "send tom ned;", 9, 3);
        fault(x, "send tom x;", 9, 3);
        fault(x, "send one tom;", 5, 3);
        fault(x, "send x one;", 5, 3);
        fault(x, "hang tom;", 5, 3);
        fault(x, "hang cellar;", 5, 1);
        fault(x, "take one;", 5, 3);
        fault(x, "take 1;", 5, 1);
        fault(x, "serve ned;", 6, 3);
        fault(x, "back one;", 5, 3);
        fault(x, "back served;", 5, 1);
        fault(x, "hour 1;send tom one;send tom one;hour 99;", 38, 2);
        Check.tower(x, "x");
        CHECK.due("5: of the tower()", x.fault(), 1);
        CHECK.due("36: another lives", Check.book(x, "hour 61;", 2), -1000);
        CHECK.due("5: it leaves the FAULT", x.fault(), 1);
        CHECK.due("36: another lives", x.book(-1), -1000);
        CHECK.due("36: the tape stayed", x.book(1), -7);
        CHECK.due("5: of the book()", x.fault(), 2);
        toldIs(x, "the latest without a FAULT", 0, 2, 3, 0);
        long400(x);
        CHECK.due("36: names are those of the TOWER now", Check.tower(x, "child x 1;floor tom music 1;"), 2);
        CHECK.due("36: a FLOOR now", Check.book(x, "send x tom;", 1), -1);
        CHECK.due("36: no more told", Check.book(x, "hang ned;", 1), -7);
        CHECK.due("18: the BOOK that was lived", x.undo(), 0);
        CHECK.due("36: WRONG in the first LINE", Check.book(x, "back x;serve x;", 1), 0);
        toldIs(x, "WRONG in the first LINE", 41, 0, 0, 0);
        CHECK.due("18: nothing of it was lived", x.undo(), -1);
    }

    /** A BOOK of which no LINE was lived leaves what can be undone as it is. */
    private static void nothingLived() {
        DumbwaiterYoung x = new DumbwaiterYoung();
        CHECK.due("36: an empty one", x.book(1), -1);
        CHECK.due("18: nothing was lived", x.undo(), -1);
        x = Check.with(Check.HOUSE);
        x.hang(0);
        String was = Check.all(x);
        String[] unlived = {"", " ", "hang ned;hour 3;", "take sam;", "send tom cellar;hour 1;", "serve ann;", "back bob;"};
        int[] due = {-1, -1, 0, 0, 0, 0, 0};
        for (int i = 0; i < unlived.length; i++) {
            CHECK.due("36: " + unlived[i], Check.book(x, unlived[i], 1), due[i]);
            CHECK.yes("36: nothing changed by " + unlived[i], was.equals(Check.all(x)));
        }
        CHECK.due("18: only the hanging", x.undo(), 0);
        CHECK.due("18: he does not hang", x.uncle(0, 1), 0);
        for (int i = 0; i < 9; i++) {
            x.hours(1);
            Check.book(x, "", 1);
            Check.book(x, "take ned;", 1);
        }
        CHECK.due("18: eight are kept, the BOOKS push none out", x.undo(), 7);
        CHECK.due("18: the latest HOUR", x.now(0), 8);
        CHECK.due("36: one LINE, then a WRONG one", Check.book(x, "hang ned;hang ned;", 1), 1);
        CHECK.due("18: one LINE was lived", x.undo(), 7);
        CHECK.due("18: he does not hang", x.uncle(0, 1), 0);
        CHECK.due("18: the eighth HOUR stays", x.now(0), 8);
        for (int i = 0; i < 7; i++) {
            x.hours(60);
        }
        CHECK.due("36: no HOUR is left", Check.book(x, "hour 1;hang ned;", 1), 0);
        CHECK.due("18: the latest hours(), not the BOOK", x.undo(), 7);
        CHECK.due("18: as it was", x.now(0), 368);
    }

    private static void long400(DumbwaiterYoung x) {
        String forty = "hour 1;".repeat(40);
        fault(x, forty + "hour 1;", 280, 4);
        fault(x, forty + "hour", 280, 4);
        fault(x, forty + "x", 280, 1);
        fault(x, "hour 1;" + " ".repeat(394), 400, 1);
        fault(x, "hour 1;" + " ".repeat(391) + "hour 1;", 400, 1);
        fault(x, "hour 1;" + " ".repeat(392) + "1234", 399, 1);
        fault(x, "hour 1;" + " ".repeat(387) + "hour 1", 400, 1);
        fault(x, "hour 1;" + " ".repeat(387) + "hour 61", 399, 2);
        CHECK.due("36: 400 bytes", Check.book(x, "hour 1;" + " ".repeat(393), 0), -1);
        CHECK.due("36: 40 LINES", Check.book(x, forty, 0), -1);
        toldIs(x, "40 LINES", 0, 40, 40, 0);
        CHECK.due("36: 40 LINES, the last WRONG", Check.book(x, "hour 1;".repeat(39) + "back tom;", 0), 39);
        toldIs(x, "40 LINES, the last WRONG", 41, 39, 39, 0);
        Check.book(x, "hour 1;hour 2;", 0);
    }

    public static void main(String[] args) {
        judged();
        lived();
        faults();
        nothingLived();
        CHECK.finish();
    }
}
