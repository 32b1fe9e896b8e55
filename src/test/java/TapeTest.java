/** Promises 1, 2, 3, 42 and the tape's part of 4, 23, 36 and 38. */
public final class TapeTest {
    private static void newObject(Check check) {
        DumbwaiterYoung x = new DumbwaiterYoung();
        int[] counts = {0, 0, 0, 100, 6, 0};
        for (int what = 0; what < counts.length; what++) {
            check.due("1: count(" + what + ")", x.count(what), counts[what]);
        }
        check.due("42: count(-1)", x.count(-1), -1);
        check.due("42: count(6)", x.count(6), -1);
        check.due("5: fault() ahead of any", x.fault(), 0);
        for (int what = 0; what < 8; what++) {
            check.due("1: now(" + what + ")", x.now(what), 0);
        }
        check.due("1: nothing to undo", x.undo(), -1);
        check.due("1: no SENTENCE", x.said(-1), -1);
        check.due("1: an empty BOOK is fine", x.book(0), -1);
        check.due("1: an empty TOWER", x.tower(), 0);
    }

    private static void feedAndEnd(Check check) {
        DumbwaiterYoung x = new DumbwaiterYoung();
        for (int i = 1; i <= 47; i++) {
            check.due("2: feed " + i, x.feed(i, 0, 0, 0, 0), 20L * i);
        }
        check.due("2: a tape of 940 takes no more", x.feed(0, 0, 0, 0, 0), -1);
        check.due("2: none came", x.count(5), 940);
        check.no("3: end(941)", x.end(941));
        check.no("3: end(-1)", x.end(-1));
        check.due("3: they changed nothing", x.count(5), 940);
        check.yes("3: end(940)", x.end(940));
        check.yes("3: end(921)", x.end(921));
        check.due("2: 941 would be too many", x.feed(0, 0, 0, 0, 0), -1);
        check.yes("3: end(920)", x.end(920));
        check.due("2: 940 are not", x.feed(0, 0, 0, 0, 0), 940);
        check.yes("3: end(0)", x.end(0));
        check.due("3: an empty tape", x.count(5), 0);
        check.yes("3: end(0) again", x.end(0));
        check.no("3: end(1) of an empty one", x.end(1));
        check.no("3: the least end", x.end(Integer.MIN_VALUE));
        check.no("3: the greatest end", x.end(Integer.MAX_VALUE));
    }

    private static void order(Check check) {
        DumbwaiterYoung x = new DumbwaiterYoung();
        x.feed(0x726f7065, 0x20313233, 0x3b67726f, 0x77203132, 0x3b202020);
        check.due("2: the highest byte comes first", x.tower(), 2);
        check.due("rope", x.count(3), 123);
        check.due("grow", x.count(4), 12);
        check.due("4: the tape is empty then", x.count(5), 0);
        x.feed(0x726f7065, 0x20393939, 0x3b202020, 0, 0);
        x.end(9);
        x.feed(0x20202020, 0x20202020, 0x20202020, 0x20202020, 0x20202020);
        check.due("3: what comes then comes behind the end", x.count(5), 29);
        check.due("4: a FAULT", x.tower(), -1 - 5);
        check.due("4: the tape is empty then, too", x.count(5), 0);
        x.feed(-1, -1, -1, -1, -1);
        check.due("2: a byte of 255 is no TOKEN", x.tower(), -1);
        x.feed(1, 2, 3, 4, 5);
        check.due("23: a tape of twenty", x.been(1), -1);
        check.due("23: the tape is empty then", x.count(5), 0);
        x.feed(1, 2, 3, 4, 5);
        check.due("36: another lives", x.book(2), -1000);
        check.due("36: the tape stays", x.count(5), 20);
        check.due("36: a FAULT at once", x.book(0), -2);
        check.due("36: the tape is empty then", x.count(5), 0);
        x.feed(1, 2, 3, 4, 5);
        check.due("38: a FAULT at once", x.sentence(), -1);
        check.due("38: the tape is empty then", x.count(5), 0);
    }

    public static void main(String[] args) {
        Check check = new Check("TapeTest");
        newObject(check);
        feedAndEnd(check);
        order(check);
        check.finish();
    }
}
