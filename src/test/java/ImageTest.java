/** Promises 40 and 41: images and what they bring back. */
public final class ImageTest {
    private static final Check CHECK = new Check("ImageTest");

    private static void noSuchOnes() {
        DumbwaiterYoung x = new DumbwaiterYoung();
        int[] none = {-1, 2, Integer.MAX_VALUE, Integer.MIN_VALUE};
        for (int k : none) {
            CHECK.no("40: image(" + k + ")", x.image(k));
            CHECK.no("41: restore(" + k + ")", x.restore(k));
        }
        CHECK.no("41: nothing is kept there", x.restore(0));
        CHECK.no("41: nothing is kept there", x.restore(1));
        CHECK.yes("40: image(1)", x.image(1));
        CHECK.no("41: nothing is kept there still", x.restore(0));
        CHECK.yes("41: restore(1)", x.restore(1));
    }

    private static void broughtBack() {
        DumbwaiterYoung x = Check.with(Check.HOUSE);
        x.hang(0);
        x.send(0, 2);
        x.send(1, 4);
        x.send(2, 4);
        x.hours(7);
        Check.sentence(x, "on two or on cellar");
        String was = Check.all(x);
        CHECK.yes("40: kept", x.image(0));
        CHECK.yes("40: nothing changed", was.equals(Check.all(x)));
        CHECK.due("40: what was done can be undone", x.undo(), 3);
        CHECK.due("a smaller one", Check.tower(x, "floor f letters 9;child tom 3;law letters 5;rope 77;grow 7;"), 5);
        x.send(0, 1);
        Check.sentence(x, "on f");
        String other = Check.all(x);
        CHECK.yes("40: kept", x.image(1));
        x.feed(1, 2, 3, 4, 5);
        CHECK.yes("41: the first", x.restore(0));
        CHECK.yes("41: as kept", was.equals(Check.all(x)));
        CHECK.due("41: the tape stays", x.count(5), 20);
        CHECK.due("41: its SENTENCE", x.said(-1) * 100 + x.said(0) * 10 + x.said(1), 202);
        CHECK.due("41: nothing can be undone", x.undo(), -1);
        CHECK.due("41: its names", Check.book(x, "send ann one;", 0), -1);
        x.send(1, 1);
        CHECK.yes("41: the other one", x.restore(1));
        CHECK.yes("41: as kept", other.equals(Check.all(x)));
        CHECK.due("41: its SENTENCE", x.said(-1), 1);
        CHECK.due("41: nothing can be undone", x.undo(), -1);
        x.hours(3);
        CHECK.yes("41: once more", x.restore(1));
        CHECK.yes("41: an image stays as it was", other.equals(Check.all(x)));
        x.hours(1);
        String later = Check.all(x);
        x.image(1);
        x.hours(1);
        x.restore(1);
        CHECK.yes("40: the latest is kept", later.equals(Check.all(x)));
        x.restore(0);
        CHECK.yes("40: the other place is not touched", was.equals(Check.all(x)));
    }

    private static void likesToo() {
        DumbwaiterYoung x = Check.with("floor f music 1;floor g music 2;child a 1;child b 1;uncle u 1;law music 1;likes f b 3;likes g b 4;");
        x.image(1);
        Check.tower(x, "floor f faith 1;floor g faith 1 cold;child a 2;child b 2;uncle u 2;law faith 1;likes f a 3;likes g a 4;");
        x.restore(1);
        x.bargain();
        CHECK.due("41: its likes", x.bargained(1), 2);
        CHECK.due("41: its likes", x.bargained(0), 1);
        x.hang(0);
        CHECK.due("41: its UNCLES", x.now(3), 1);
        CHECK.due("41: their names", Check.book(x, "take u;", 0), -1);
    }

    private static void whatWasToldStays() {
        DumbwaiterYoung x = Check.with(Check.HOUSE);
        x.image(0);
        x.plan(0);
        x.hung(0);
        x.bargain();
        x.cover(0);
        Check.been(x, 2, 3, 2, 0, 0);
        Check.book(x, "hour 5;back tom;", 0);
        Check.sentence(x, "on nowhere");
        x.restore(0);
        CHECK.due("41: planAt", x.planAt(1), 4);
        CHECK.due("41: passes", x.passes(), 4);
        CHECK.due("41: hanging", x.hanging(), 2);
        CHECK.due("41: bargained", x.bargained(0), 4);
        CHECK.due("41: byteAt", x.byteAt(0), 't');
        CHECK.due("41: beenAt", x.beenAt(1), 2);
        CHECK.due("41: ask", x.ask(), 0);
        CHECK.due("41: told", x.told(0), 41);
        CHECK.due("41: fault", x.fault(), 3);
        CHECK.due("41: no SENTENCE was kept", x.said(-1), -1);
        Check.sentence(x, "ready");
        x.restore(0);
        CHECK.due("41: so there is none", x.said(-1), -1);
        Check.sentence(x, "not ready");
        x.hang(0);
        x.undo();
        CHECK.due("18: what is undone leaves the SENTENCE", x.said(-1), 3);
        x.hang(0);
        CHECK.no("41: nothing is kept there", x.restore(1));
        CHECK.due("41: so nothing changed", x.undo(), 0);
    }

    public static void main(String[] args) {
        noSuchOnes();
        broughtBack();
        likesToo();
        whatWasToldStays();
        CHECK.finish();
    }
}
