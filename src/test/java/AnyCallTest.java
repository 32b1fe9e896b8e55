import java.util.NoSuchElementException;
import java.util.Random;

/** Any calls with any arguments: nothing is thrown but what child() may throw, and what is told fits together. */
public final class AnyCallTest {
    private static final Check CHECK = new Check("AnyCallTest");
    private static final Random RANDOM = new Random(42);
    private static final String[] WORDS = {"floor", "cold", "child", "uncle", "law", "likes", "rope", "grow", "manners", "music", "faith",
        "letters", "send", "cellar", "hang", "take", "serve", "back", "hour", "or", "and", "not", "served", "ready", "talks", "on", "lacks",
        "weight", "shy", "fell", "number", "tom", "ann", "bob", "one", "two", "tri", "qua", "ned", "sam", ";", ";", "<", "=", ">", "(", ")",
        "1", "2", "9", "20", "61", "999", "1000", ".", "?"};

    private static int any() {
        switch (RANDOM.nextInt(10)) {
            case 0:
                return RANDOM.nextInt();
            case 1:
                return RANDOM.nextBoolean() ? Integer.MAX_VALUE : Integer.MIN_VALUE;
            case 2:
                return RANDOM.nextInt(70);
            default:
                return RANDOM.nextInt(11) - 2;
        }
    }

    private static String text() {
        StringBuilder text = new StringBuilder();
        if (RANDOM.nextInt(3) == 0) {
            text.append(Check.HOUSE);
        }
        int words = RANDOM.nextInt(40);
        for (int i = 0; i < words; i++) {
            text.append(WORDS[RANDOM.nextInt(WORDS.length)]).append(RANDOM.nextInt(3) == 0 ? "" : " ");
        }
        if (RANDOM.nextInt(10) == 0) {
            text.append(" ".repeat(RANDOM.nextInt(600)));
        }
        text.setLength(Math.min(text.length(), 940));
        return text.toString();
    }

    private static void call(DumbwaiterYoung x, int which) {
        switch (which) {
            case 0 -> x.feed(any(), any(), any(), any(), any());
            case 1 -> x.end(any());
            case 2 -> Check.tower(x, RANDOM.nextInt(4) == 0 ? text() : Check.HOUSE);
            case 3 -> x.fault();
            case 4 -> x.has(any(), any());
            case 5 -> x.floor(any(), any());
            case 6 -> x.uncle(any(), any());
            case 7 -> x.law(any());
            case 8 -> x.now(any());
            case 9, 10, 11, 12 -> x.send(any(), any());
            case 13 -> x.hang(any());
            case 14 -> x.take(any());
            case 15 -> x.serve(any());
            case 16 -> x.back(any());
            case 17 -> x.hours(any());
            case 18 -> x.undo();
            case 19 -> x.when(any());
            case 20 -> x.plan(any());
            case 21 -> x.planAt(any());
            case 22 -> x.passes();
            case 23 -> Check.been(x, any(), RANDOM.nextInt(20), RANDOM.nextInt(9), RANDOM.nextInt(5), RANDOM.nextInt(2));
            case 24 -> x.beenAt(any());
            case 25 -> x.ask();
            case 26 -> x.hung(any());
            case 27 -> x.hanging();
            case 28 -> x.holds(any(), any());
            case 29 -> x.web(any());
            case 30 -> x.bargain();
            case 31 -> x.bargained(any());
            case 32 -> x.cover(any());
            case 33 -> x.byteAt(any());
            case 34 -> x.drawn(any(), any());
            case 35 -> x.odds(any(), any(), any());
            case 36 -> Check.book(x, text(), any());
            case 37 -> x.told(any());
            case 38 -> Check.sentence(x, text());
            case 39 -> x.said(any());
            case 40 -> x.image(any());
            case 41 -> x.restore(any());
            case 42 -> x.count(any());
            case 43 -> x.tower();
            case 44 -> x.book(any());
            case 45 -> x.sentence();
            default -> x.been(any());
        }
    }

    private static void childThrowsAlone(DumbwaiterYoung x, int c, int what) {
        boolean there = c >= 0 && c < x.count(1) && what >= 0 && what <= 6;
        boolean thrown = false;
        try {
            x.child(c, what);
        } catch (NoSuchElementException e) {
            thrown = true;
        }
        CHECK.due("6: child(" + c + ", " + what + ") throws", thrown ? 1 : 0, there ? 0 : 1);
    }

    private static void fits(DumbwaiterYoung x) {
        for (int c = 0; c < x.count(1); c++) {
            int place = Check.child(x, c, 0);
            CHECK.yes("a place", place >= -1 && place <= x.count(0));
            CHECK.yes("a WEIGHT", Check.child(x, c, 1) >= 1 && Check.child(x, c, 1) <= 60);
            CHECK.due("8: who is on its FLOOR", place > 0 ? x.floor(place, 3) : c, c);
            CHECK.due("11: served", x.now(4) >> c & 1, place == -1 ? 1 : 0);
            CHECK.due("11: on a FLOOR", x.now(6) >> c & 1, place > 0 ? 1 : 0);
            CHECK.due("11: ready", x.now(5) >> c & 1, place >= 0 && Check.child(x, c, 5) == 0 ? 1 : 0);
            CHECK.yes("29: itself", (x.web(c) >> c & 1) != 0);
            CHECK.yes("29: its NEIGHBOURS", (x.web(c) & Check.child(x, c, 6)) == Check.child(x, c, 6));
        }
        CHECK.yes("11: an HOUR", x.now(0) >= 0 && x.now(0) <= 400);
        CHECK.yes("11: WEAR", x.now(1) >= 0 && x.now(1) < x.count(3));
    }

    public static void main(String[] args) {
        for (int object = 0; object < 60; object++) {
            DumbwaiterYoung x = new DumbwaiterYoung();
            for (int i = 0; i < 500; i++) {
                call(x, RANDOM.nextInt(47));
                childThrowsAlone(x, any(), any());
                fits(x);
            }
        }
        CHECK.finish();
    }
}
