/** Promises 34 and 35: HOURS by draws, against the same done by single calls. */
public final class DrawsTest {
    private static final Check CHECK = new Check("DrawsTest");
    private static final String HOUSE = Check.HOUSE + "child eve 2;";

    private static int x;

    private static int draw(int n) {
        x = x * 1103515245 + 12345;
        return (x >>> 8) % n;
    }

    private static int byHand(DumbwaiterYoung y, int n, int seed) {
        x = seed;
        int went = 0;
        while (went < n && y.now(0) < 400) {
            for (int c = 0; c < y.count(1); c++) {
                if (Check.child(y, c, 0) != -1) {
                    int choice = draw(4);
                    if (choice == 0) {
                        y.send(c, draw(y.count(0) + 1));
                    } else if (choice == 1) {
                        y.serve(c);
                    }
                }
            }
            went += y.hours(1);
        }
        return went;
    }

    private static void drawn() {
        int[] seeds = {0, 1, -1, 12345, Integer.MAX_VALUE, Integer.MIN_VALUE, 987654321};
        for (int seed : seeds) {
            DumbwaiterYoung a = Check.with(HOUSE);
            DumbwaiterYoung b = Check.with(HOUSE);
            for (int n = 1; n <= 60; n += n < 5 ? 1 : 11) {
                CHECK.due("34: drawn(" + n + ", " + seed + ")", a.drawn(n, seed + n), n);
                byHand(b, n, seed + n);
                CHECK.yes("34: as by hand", Check.all(a).equals(Check.all(b)));
            }
            CHECK.due("18: kept as one each", a.undo(), 7);
        }
        CHECK.due("34: sixty", Check.with(HOUSE).drawn(60, 1), 60);
    }

    private static void edges() {
        DumbwaiterYoung a = Check.with(HOUSE);
        String was = Check.all(a);
        int[] none = {0, -1, 61, Integer.MAX_VALUE, Integer.MIN_VALUE};
        for (int n : none) {
            CHECK.due("34: drawn(" + n + ", 1)", a.drawn(n, 1), -1);
        }
        CHECK.yes("34: nothing changed", was.equals(Check.all(a)));
        CHECK.due("18: nothing to undo", a.undo(), -1);
        for (int i = 0; i < 6; i++) {
            a.hours(60);
        }
        CHECK.due("34: fewer are left", a.drawn(60, 3), 40);
        CHECK.due("34: all are over", a.now(0), 400);
        was = Check.all(a);
        int undoable = a.undo();
        a.drawn(60, 3);
        CHECK.yes("34: the same again", was.equals(Check.all(a)));
        CHECK.due("34: none is left", a.drawn(60, 3), 0);
        CHECK.yes("34: nobody is sent then", was.equals(Check.all(a)));
        CHECK.due("18: 0 is not kept", a.undo(), undoable);
    }

    private static void odds() {
        DumbwaiterYoung a = Check.with(HOUSE);
        a.send(1, 3);
        a.hours(3);
        a.image(0);
        String was = Check.all(a);
        int[] seeds = {5, Integer.MAX_VALUE - 10, -3};
        for (int seed : seeds) {
            for (int c = 0; c < 4; c++) {
                int served = 0;
                for (int i = 0; i < 30; i++) {
                    CHECK.due("35: odds(" + c + ", " + (i + 1) + ", " + seed + ") grows by one or none", servedBy(c, seed + i), a.odds(c, i + 1, seed) - served);
                    served = a.odds(c, i + 1, seed);
                }
            }
        }
        CHECK.yes("35: nothing changed", was.equals(Check.all(a)));
        CHECK.due("35: no CHILD", a.odds(4, 1, 1), -1);
        CHECK.due("35: no CHILD", a.odds(-1, 1, 1), -1);
        CHECK.due("35: no seed", a.odds(0, 0, 1), -1);
        CHECK.due("35: below", a.odds(0, -1, 1), -1);
        CHECK.due("35: 31 seeds", a.odds(0, 31, 1), -1);
    }

    private static int servedBy(int c, int seed) {
        DumbwaiterYoung b = Check.with(HOUSE);
        b.send(1, 3);
        b.hours(3);
        b.drawn(30, seed);
        return Check.child(b, c, 0) == -1 ? 1 : 0;
    }

    private static void servedAlready() {
        DumbwaiterYoung a = Check.with("child c 1;child d 1;floor f music 1;law music 60;");
        CHECK.due("35: never in 30 HOURS", a.odds(0, 30, 1), 0);
        DumbwaiterYoung b = Check.with("child c 1;child d 1;");
        b.serve(0);
        CHECK.due("35: served already", b.odds(0, 30, 1), 30);
        for (int i = 0; i < 7; i++) {
            b.hours(60);
        }
        CHECK.due("35: no HOUR is left", b.odds(1, 30, 1), 0);
        CHECK.due("35: served already, no HOUR is left", b.odds(0, 30, 1), 30);
    }

    public static void main(String[] args) {
        drawn();
        edges();
        odds();
        servedAlready();
        CHECK.finish();
    }
}
