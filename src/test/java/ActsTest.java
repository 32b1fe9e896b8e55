/** Promises 12 to 18: SEND, HANG, TAKE, SERVE, BACK, HOURS and what is undone. */
public final class ActsTest {
    private static final Check CHECK = new Check("ActsTest");
    private static final int[] NO_ONE = {-1, 7, 99, Integer.MAX_VALUE, Integer.MIN_VALUE};

    private static void nobody() {
        DumbwaiterYoung x = Check.with(Check.HOUSE);
        String before = Check.all(x);
        for (int no : NO_ONE) {
            CHECK.due("12: send(" + no + ", 1)", x.send(no, 1), -1);
            CHECK.due("12: send(0, " + no + ")", x.send(0, no), -1);
            CHECK.due("13: hang(" + no + ")", x.hang(no), -1);
            CHECK.due("14: take(" + no + ")", x.take(no), -1);
            CHECK.due("15: serve(" + no + ")", x.serve(no), -1);
            CHECK.due("16: back(" + no + ")", x.back(no), -1);
        }
        CHECK.due("12: send(3, 1)", x.send(3, 1), -1);
        CHECK.due("12: send(0, 5)", x.send(0, 5), -1);
        CHECK.due("13: hang(2)", x.hang(2), -1);
        CHECK.due("14: take(2)", x.take(2), -1);
        CHECK.due("15: serve(3)", x.serve(3), -1);
        CHECK.due("16: back(3)", x.back(3), -1);
        CHECK.due("17: hours(0)", x.hours(0), -1);
        CHECK.due("17: hours(61)", x.hours(61), -1);
        CHECK.due("17: hours(-1)", x.hours(-1), -1);
        CHECK.yes("nothing changed", before.equals(Check.all(x)));
        CHECK.due("18: nothing was done", x.undo(), -1);
    }

    private static void send() {
        DumbwaiterYoung x = Check.with("floor a music 1;floor b music 1;child c 10;child d 4;child e 20;uncle u 4;law music 1;rope 40;");
        CHECK.due("12: it is there", x.send(0, 0), 2);
        CHECK.due("12: up", x.send(0, 2), 0);
        CHECK.due("12: WEAR", x.now(1), 20);
        CHECK.due("12: it is there now", x.send(0, 2), 2);
        CHECK.due("12: another one is there", x.send(1, 2), 3);
        CHECK.due("12: down by one: the WEAR is 30", x.send(0, 1), 0);
        CHECK.due("12: the cellar takes all", x.send(0, 0), 0);
        CHECK.due("12: 40 is as much as the rope tells: it fell", Check.child(x, 0, 4), 1);
        CHECK.due("12: its WEIGHT", Check.child(x, 0, 1), 12);
        CHECK.due("12: a new rope", x.now(1), 0);
        CHECK.due("12: with an UNCLE", x.hang(0) + x.send(1, 1), 0);
        CHECK.due("12: no WEAR in BALANCE", x.now(1), 0);
        CHECK.due("12: lighter than the BALANCE or not", x.send(0, 2), 0);
        CHECK.due("12: 2 times 8", x.now(1), 16);
        x.hours(1);
        CHECK.due("12: served", x.serve(0) + 10 * x.send(0, 1) + 100 * x.send(0, 0), 110);
        CHECK.due("12: its FLOOR is free then", x.send(2, 2), 0);
        CHECK.due("12: 16 and 32: the rope RAN", x.now(2), 2);
        CHECK.due("12: from the cellar, fallen", Check.child(x, 2, 0), 0);
        heaviest();
    }

    private static void heaviest() {
        DumbwaiterYoung x = Check.with("floor a music 1;child c 20;rope 10;grow 48;");
        for (int i = 1; i <= 22; i++) {
            x.send(0, 1);
            CHECK.due("12: WEIGHT behind fall " + i, Check.child(x, 0, 1), Math.min(60, 20 + 2 * i));
            CHECK.due("12: falls", Check.child(x, 0, 4), i);
        }
        DumbwaiterYoung y = Check.with("floor a music 1;child c 19;rope 10;grow 48;");
        for (int i = 1; i <= 21; i++) {
            y.send(0, 1);
        }
        CHECK.due("12: 59 and 2 are 60", Check.child(y, 0, 1), 60);
        DumbwaiterYoung z = Check.with("floor a music 1;child c 3;uncle u 20;rope 500;");
        z.hang(0);
        z.send(0, 1);
        CHECK.due("12: too light counts as much as too heavy", z.now(1), 17);
    }

    private static void uncles() {
        DumbwaiterYoung x = Check.with(Check.HOUSE);
        CHECK.due("14: he does not hang", x.take(1), 1);
        CHECK.due("13: he is hung", x.hang(1), 0);
        CHECK.due("13: he hangs", x.hang(1), 1);
        CHECK.due("13: the other one", x.hang(0), 0);
        CHECK.due("BALANCE", x.now(3), 9);
        CHECK.due("14: he is taken", x.take(1), 0);
        CHECK.due("14: he does not hang now", x.take(1), 1);
        CHECK.due("BALANCE", x.now(3), 4);
        CHECK.due("14: the other one", x.take(0), 0);
        CHECK.due("BALANCE", x.now(3), 0);
    }

    private static void serveAndBack() {
        DumbwaiterYoung x = Check.with("floor a music 2 cold;floor b faith 2;child c 1;child d 1;law music 4;grow 2;");
        CHECK.due("15: it LACKS", x.serve(0), 2);
        CHECK.due("16: it is not served", x.back(0), 1);
        x.send(0, 1);
        x.hours(1);
        CHECK.due("15: it LACKS still", x.serve(0), 2);
        x.hours(1);
        CHECK.due("15: served", x.serve(0), 0);
        CHECK.due("15: it is served", x.serve(0), 1);
        CHECK.due("15: nowhere", Check.child(x, 0, 0), -1);
        CHECK.due("15: its FLOOR is free", x.floor(1, 3), -1);
        CHECK.due("15: it has what it has", x.has(0, 1), 4);
        x.hours(3);
        CHECK.due("17: no older", Check.child(x, 0, 2), 2);
        CHECK.due("17: no heavier", Check.child(x, 0, 1), 2);
        CHECK.due("17: no shyer", Check.child(x, 0, 3), 2);
        CHECK.due("16: back", x.back(0), 0);
        CHECK.due("16: in the cellar", Check.child(x, 0, 0), 0);
        CHECK.due("16: has nothing", x.has(0, 0) + x.has(0, 1) + x.has(0, 2) + x.has(0, 3), 0);
        CHECK.due("16: not shy", Check.child(x, 0, 3), 0);
        CHECK.due("16: as old", Check.child(x, 0, 2), 2);
        CHECK.due("16: as heavy", Check.child(x, 0, 1), 2);
        CHECK.due("16: it is not served", x.back(0), 1);
        DumbwaiterYoung y = Check.with("child c 1;");
        CHECK.due("15: without a law at once", y.serve(0), 0);
    }

    private static void hours() {
        DumbwaiterYoung x = Check.with("floor a music 9 cold;floor b faith 1;child c 1;child d 20;grow 1;");
        x.send(0, 1);
        CHECK.due("17: one", x.hours(1), 1);
        CHECK.due("17: sixty", x.hours(60), 60);
        CHECK.due("17: 99 of a GIFT at most", x.has(0, 1), 99);
        CHECK.due("17: older", Check.child(x, 0, 2), 61);
        CHECK.due("17: 60 at most", Check.child(x, 0, 1), 60);
        CHECK.due("17: in the cellar, too", Check.child(x, 1, 1), 60);
        x.hours(60);
        CHECK.due("17: SHYNESS 99 at most", Check.child(x, 0, 3), 99);
        for (int i = 0; i < 4; i++) {
            x.hours(60);
        }
        CHECK.due("17: 361", x.now(0), 361);
        CHECK.due("17: fewer are left", x.hours(60), 39);
        CHECK.due("17: all are over", x.now(0), 400);
        String then = Check.all(x);
        CHECK.due("17: none", x.hours(1), 0);
        CHECK.yes("17: nothing changed", then.equals(Check.all(x)));
        CHECK.due("12: it can still be sent", x.send(0, 2), 0);
        CHECK.due("18: the sending, then seven, the eldest being gone", x.undo(), 7);
        CHECK.due("18: the 39 HOURS", x.undo(), 6);
        CHECK.due("18: 361 again", x.now(0), 361);
    }

    private static void talk() {
        DumbwaiterYoung x = Check.with("floor a manners 1;floor b music 5;floor d music 1;floor e faith 9;child p 1;child q 1;child r 1;child s 1;rope 500;");
        x.send(2, 1);
        x.send(0, 2);
        x.send(1, 3);
        x.hours(1);
        CHECK.due("17: of 5 and 1 music", x.has(1, 1), 2);
        CHECK.due("17: of 5 and 0 music", x.has(2, 1), 1);
        CHECK.due("17: 1 more is too little", x.has(0, 0), 0);
        x.hours(1);
        CHECK.due("17: of the first GIFT", x.has(0, 0), 1);
        CHECK.due("17: of the first GIFT alone", x.has(2, 1), 1);
        CHECK.due("17: the pair with the lesser number", x.has(1, 1), 4);
        x.send(3, 4);
        x.hours(1);
        CHECK.due("17: of music, which comes ahead of faith", x.has(3, 1), 1);
        CHECK.due("17: so not of faith", x.has(1, 2), 0);
        x.hours(1);
        CHECK.due("17: what one hears in an HOUR", x.has(3, 1), 2);
        CHECK.due("17: q hears of manners from p, who had 2 then", x.has(1, 0), 1);
        CHECK.due("17: and p from r behind that", x.has(0, 0), 3);
        pairByPair();
    }

    private static void pairByPair() {
        DumbwaiterYoung x = Check.with("floor a music 4;floor b faith 1;floor d faith 1;child p 1;child q 1;child r 1;rope 500;");
        x.send(0, 1);
        x.send(1, 2);
        x.hours(1);
        x.hours(1);
        x.send(2, 3);
        CHECK.due("17: q has heard twice", x.has(1, 1), 2);
        x.hours(1);
        CHECK.due("17: q hears from p, r from q, who has 3 then", x.has(2, 1), 1);
        CHECK.due("17: q has 3", x.has(1, 1), 3);
        DumbwaiterYoung y = Check.with("floor a music 2;floor b faith 1;floor d faith 1;child p 1;child q 1;child r 1;rope 500;");
        y.send(2, 1);
        y.send(1, 2);
        y.send(0, 3);
        y.hours(1);
        CHECK.due("17: p and q come ahead of q and r", y.has(0, 1), 0);
        CHECK.due("17: q hears from r", y.has(1, 1), 1);
        y.hours(1);
        CHECK.due("17: q has 2 now", y.has(1, 1), 2);
        CHECK.due("17: p heard nothing, q had 1", y.has(0, 1), 0);
        y.hours(1);
        CHECK.due("17: p hears", y.has(0, 1), 1);
    }

    private static void growing() {
        DumbwaiterYoung x = Check.with("child c 5;child d 7;grow 3;");
        int[] weights = {5, 5, 6, 6, 6, 7, 7};
        for (int weight : weights) {
            x.hours(1);
            CHECK.due("17: WEIGHT at HOUR " + x.now(0), Check.child(x, 0, 1), weight);
        }
        x.serve(1);
        x.hours(4);
        x.back(1);
        x.hours(1);
        CHECK.due("17: by its own AGE", Check.child(x, 1, 2), 8);
        CHECK.due("17: not yet", Check.child(x, 1, 1), 9);
        x.hours(1);
        CHECK.due("17: now", Check.child(x, 1, 1), 10);
    }

    private static void undo() {
        DumbwaiterYoung x = Check.with("floor a music 2;child c 2;uncle u 3;law music 2;");
        String[] was = new String[12];
        int acts = 0;
        for (int i = 0; i < 2; i++) {
            was[acts++] = Check.all(x);
            x.hang(0);
            was[acts++] = Check.all(x);
            x.send(0, 1);
            was[acts++] = Check.all(x);
            x.hours(2);
            was[acts++] = Check.all(x);
            x.take(0);
            was[acts++] = Check.all(x);
            x.serve(0);
            was[acts++] = Check.all(x);
            x.back(0);
        }
        x.back(0);
        x.send(0, 0);
        x.hours(99);
        x.take(0);
        x.serve(0);
        for (int left = 7; left >= 0; left--) {
            CHECK.due("18: how many more", x.undo(), left);
            acts--;
            CHECK.yes("18: as it was ahead of act " + acts, was[acts].equals(Check.all(x)));
        }
        CHECK.due("18: 8 at most are kept", x.undo(), -1);
        CHECK.yes("18: and nothing changes then", was[acts].equals(Check.all(x)));
        x.hang(0);
        CHECK.due("18: one", x.undo(), 0);
        CHECK.due("18: none", x.undo(), -1);
        undoFall();
    }

    private static void undoFall() {
        DumbwaiterYoung x = Check.with(Check.HOUSE);
        x.send(1, 4);
        String was = Check.all(x);
        x.send(0, 3);
        CHECK.due("18: the rope ran", x.now(2), 1);
        CHECK.due("18: undone", x.undo(), 1);
        CHECK.yes("18: it did not run", was.equals(Check.all(x)));
        x.drawn(3, 7);
        CHECK.due("18: drawn() is undone", x.undo(), 1);
        CHECK.yes("18: as it was", was.equals(Check.all(x)));
        x.drawn(0, 7);
        CHECK.due("18: what is NONE is not kept", x.undo(), 0);
    }

    public static void main(String[] args) {
        nobody();
        send();
        uncles();
        serveAndBack();
        hours();
        talk();
        growing();
        undo();
        CHECK.finish();
    }
}
