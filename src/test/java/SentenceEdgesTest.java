/** Edges of a SENTENCE's text (==== 1), promises 38, 39 and 5: each case names the words of the document that it is about. */
public final class SentenceEdgesTest {
    private static final Check CHECK = new Check("SentenceEdgesTest");
    private static final String[] GIFTS = {"manners", "music", "faith", "letters"};

    /** Four CHILDREN: 0 served, 1 on the first FLOOR, 2 on the second, 3 in the cellar. */
    private static DumbwaiterYoung household() {
        DumbwaiterYoung x = Check.with("floor one music 3 cold;floor two faith 2;floor top letters 1;"
            + "child tom 4;child ann 6;child bob 8;child eve 20;uncle ned 3;law music 3;rope 40;grow 48;");
        x.send(0, 1);
        x.hours(1);
        x.serve(0);
        x.send(1, 1);
        x.send(3, 2);
        x.send(2, 2);
        return x;
    }

    private static DumbwaiterYoung fine(String what, String text, int ones) {
        DumbwaiterYoung x = household();
        CHECK.due("inside, sentence(): " + what, Check.sentence(x, text), ones);
        CHECK.due("inside, fault(): " + what, x.fault(), 0);
        return x;
    }

    /** Of whom it may be said, as bits. */
    private static void said(String text, int ones, int bits) {
        DumbwaiterYoung x = fine(text, text, ones);
        int got = 0;
        for (int k = 0; k < x.said(-1); k++) {
            got |= 1 << x.said(k);
        }
        CHECK.due("of whom: " + text, got, bits);
    }

    private static void faulty(String what, String text, int place, int kind) {
        DumbwaiterYoung x = household();
        CHECK.due("outside, sentence(): " + what, Check.sentence(x, text), -1 - place);
        CHECK.due("outside, fault(): " + what, x.fault(), kind);
        CHECK.due("outside, there is still none: " + what, x.said(-1), -1);
        Check.sentence(x, "number = 2");
        Check.sentence(x, text);
        CHECK.due("outside, it stays: " + what, x.said(0), 2);
        CHECK.due("outside, the tape is empty: " + what, x.count(5), 0);
    }

    private static void bytes() {
        CHECK.about(38, "A SENTENCE is a text of at most 200 bytes");
        fine("200, the last a blank", "ready" + " ".repeat(195), 1);
        fine("200, the last of a WORD", " ".repeat(195) + "ready", 1);
        faulty("201, the last a blank", "ready" + " ".repeat(196), 200, 1);
        faulty("201, the last of a WORD", " ".repeat(196) + "ready", 200, 1);
        faulty("940", "ready" + " ".repeat(935), 200, 1);
        CHECK.about(38, "the most bytes told, if there are more and no FAULT is ahead: TOKENS that begin ahead of it are read whole");
        faulty("a FAULT at 199", "ready" + " ".repeat(194) + "?  ", 199, 1);
        faulty("what can't come at 200", "ready" + " ".repeat(195) + "?", 200, 1);
        faulty("a WORD from 199 on, read whole", " ".repeat(199) + "ready", 200, 1);
        faulty("a WORD from 199 on, read whole: it can't come", " ".repeat(199) + "readyx", 199, 1);
        faulty("a NAME from 199 on, read whole: told", "on" + " ".repeat(197) + "one", 200, 1);
        faulty("a NAME from 199 on, read whole: not told", "on" + " ".repeat(197) + "onex", 199, 3);
        faulty("a NAME from 200 on is not read", "on" + " ".repeat(198) + "onex", 200, 1);
        faulty("a NUMBER from 199 on, read whole", "shy<" + " ".repeat(195) + "999", 200, 1);
        faulty("from 199 on, read whole: no TOKEN", "shy<" + " ".repeat(195) + "1000", 199, 1);
        CHECK.about(38, "the end: how many bytes there are");
        faulty("0", "", 0, 1);
        faulty("1, a blank", " ", 1, 1);
        faulty("3", "not", 3, 1);
        faulty("4, the last a blank", "not ", 4, 1);
        faulty("200", "not" + " ".repeat(197), 200, 1);
    }

    private static void ones() {
        CHECK.about(38, "20 ONES, 8 within one another");
        fine("19", "ready" + " or ready".repeat(18), 19);
        fine("20", "ready" + " or ready".repeat(19), 20);
        faulty("21", "ready" + " or ready".repeat(20), 180, 4);
        fine("20, joined by 'and'", "shy<1" + " and shy<1".repeat(19), 20);
        fine("20 with not and brackets", "ready" + " or not ready".repeat(8) + " or (fell=0)" + " or ready", 20);
        faulty("21: each bracket is a ONE", "ready" + " or not ready".repeat(9) + " or (ready)", 127, 4);
        faulty("21: what 'not' is of", "ready" + " or ready".repeat(18) + " or not ready", 175, 4);
        said("number=9" + " or shy=9".repeat(18) + " or number=2", 20, 4);
        said("number=2" + " and shy<9".repeat(18) + " and shy=9", 20, 0);
        said("number=2" + " and shy<9".repeat(17) + " or number=3 and shy=0", 20, 12);
        said("number=1 and (number<9)", 3, 2);
        said("number=1 and (number<9 and (number<9 or number>9))", 6, 2);
        CHECK.about(5, "a 21st ONE, a ninth within (at its first TOKEN)");
        String twenty = "ready" + " or ready".repeat(19);
        String[] begins = {"not", "(", "served", "ready", "talks", "on", "lacks", "manners", "music", "faith", "letters", "weight", "shy", "fell", "number"};
        String eight = "not ".repeat(8);
        for (String word : begins) {
            faulty("a 21st begun by " + word, twenty + " or  " + word, 181, 4);
            faulty("a ninth begun by " + word, eight + word, 32, 4);
        }
        String[] others = {"or", "and", "cellar", "tom", "one", "5", ")", "<", ";", "?", "floor"};
        for (String word : others) {
            faulty("a 21st that can't come, the least: " + word, twenty + " or " + word, 180, 1);
            faulty("a ninth that can't come, the least: " + word, eight + word, 32, 1);
        }
    }

    private static void within() {
        CHECK.about(38, "20 ONES, 8 within one another");
        fine("7 by not", "not ".repeat(6) + "ready", 7);
        fine("8 by not", "not ".repeat(7) + "ready", 8);
        faulty("9 by not", "not ".repeat(8) + "ready", 32, 4);
        fine("8 by brackets", "(".repeat(7) + "ready" + ")".repeat(7), 8);
        faulty("9 by brackets", "(".repeat(8) + "ready" + ")".repeat(8), 8, 4);
        fine("8 by both", "not (not (not (not ready)))".replace("ready", "ready or shy<1"), 9);
        faulty("9 by both", "not (not (not (not (ready))))", 20, 4);
        fine("8, twice beside one another", "(((((((ready))))))) or (((((((ready)))))))", 16);
        fine("8, joined in the innermost", "(((((((ready and ready or ready)))))))", 10);
        faulty("9 in the second of two", "ready or ((((((((ready))))))))", 17, 4);
        fine("what is joined is not within", "not ready and not ready or not ready and not ready", 8);
    }

    private static void conditions() {
        CHECK.about(38, "COND: ALL { 'or' ALL }. ALL: ONE { 'and' ONE }");
        said("number=0 or number=1 and number=2", 3, 1);
        said("number=2 and number=1 or number=0", 3, 1);
        said("number=0 or number=3", 2, 9);
        said("number<3 and number>1", 2, 4);
        faulty("none", "", 0, 1);
        faulty("'or' first", "or ready", 0, 1);
        faulty("'or' last", "ready or", 8, 1);
        faulty("'and' last", "ready and", 9, 1);
        faulty("'or' twice", "ready or or ready", 9, 1);
        faulty("'and or'", "ready and or ready", 10, 1);
        faulty("two not joined", "ready served", 6, 1);
        faulty("an end of a LINE", "ready;", 5, 1);
        CHECK.about(38, "ONE: 'not' ONE | ( COND )");
        said("not served", 2, 14);
        said("not not served", 3, 1);
        said("not served and talks", 3, 6);
        said("not (served or talks)", 4, 8);
        said("not served or talks", 3, 14);
        faulty("'not' of nothing", "not", 3, 1);
        faulty("'not' of 'or'", "not or", 4, 1);
        faulty("nothing in brackets", "()", 1, 1);
        faulty("a bracket that has no end", "(ready", 6, 1);
        faulty("an end that has no bracket", "ready)", 5, 1);
        faulty("two of them", "(ready))", 7, 1);
    }

    private static void plainOnes() {
        CHECK.about(39, "'served' | 'ready' (it lacks nothing) | 'talks' (it has a NEIGHBOUR) | 'on' TO (it is there) | 'lacks' GIFT");
        said("served", 1, 1);
        said("ready", 1, 1);
        said("talks", 1, 6);
        said("on cellar", 1, 8);
        said("on one", 1, 2);
        said("on two", 1, 4);
        said("on top", 1, 0);
        said("lacks music", 1, 14);
        said("lacks manners", 1, 0);
        faulty("'on' of an UNCLE", "on ned", 3, 3);
        faulty("'on' of a CHILD", "on tom", 3, 3);
        faulty("'on' of what is not told", "on x", 3, 3);
        faulty("'on' of a WORD that is no NAME", "on music", 3, 1);
        faulty("'on' of a NUMBER", "on 1", 3, 1);
        faulty("'lacks' of no GIFT", "lacks weight", 6, 1);
        faulty("'lacks' of 'number'", "lacks number", 6, 1);
        faulty("'lacks' of a NAME", "lacks one", 6, 1);
        faulty("'lacks' of nothing", "lacks", 5, 1);
        DumbwaiterYoung x = Check.with("floor a music 2;child c 1;law music 4;");
        Check.sentence(x, "ready");
        x.send(0, 1);
        x.hours(1);
        CHECK.due("2 of 4: not 'ready'", x.said(-1), 0);
        x.hours(1);
        CHECK.due("4 of 4: 'ready'", x.said(-1), 1);
        Check.sentence(x, "lacks music");
        CHECK.due("4 of 4: no more 'lacks'", x.said(-1), 0);
        x.undo();
        CHECK.due("2 of 4: 'lacks'", x.said(-1), 1);
    }

    private static void comparisons() {
        CHECK.about(39, "( GIFT | 'weight' | 'shy' | 'fell' | 'number' ) SIGN NUMBER (what it has of that, how often it fell; its number). SIGN: < = >");
        said("music<3", 1, 14);
        said("music=3", 1, 1);
        said("music>3", 1, 0);
        said("music>2", 1, 1);
        said("weight<6", 1, 1);
        said("weight=6", 1, 2);
        said("weight>6", 1, 12);
        said("weight<7", 1, 3);
        said("weight>5", 1, 14);
        said("shy<1", 1, 14);
        said("shy=1", 1, 1);
        said("shy>0", 1, 1);
        said("fell>0", 1, 8);
        said("fell=1", 1, 8);
        said("fell<1", 1, 7);
        said("number<1", 1, 1);
        said("number=3", 1, 8);
        said("number>3", 1, 0);
        said("number>2", 1, 8);
        said("number<0", 1, 0);
        CHECK.about(38, "NUMBERS: 1 to 3 digits");
        for (String gift : GIFTS) {
            fine(gift + " 0", gift + "<0", 1);
            fine(gift + " 999", gift + "<999", 1);
            faulty(gift + " 1000", gift + "<1000", gift.length() + 1, 1);
            faulty(gift + " 0000", gift + "<0000", gift.length() + 1, 1);
        }
        said("letters=000", 1, 15);
        said("number<999", 1, 15);
        faulty("no SIGN", "music 3", 6, 1);
        faulty("two SIGNS", "music<=3", 6, 1);
        faulty("no NUMBER", "music<", 6, 1);
        faulty("a NAME for the NUMBER", "music<one", 6, 1);
        CHECK.about(38, "; < = > ( ) .");
        for (int b = 0; b < 256; b++) {
            boolean goesOn = b >= 'a' && b <= 'z' || b >= '0' && b <= '9';
            boolean blank = b == 32 || b == 10;
            if (b == '<' || b == '=' || b == '>') {
                fine("byte " + b + " as a SIGN", "music" + (char) b + "5", 1);
            } else {
                faulty("byte " + b + " as a SIGN", "music" + (char) b + "5", goesOn ? 0 : blank ? 6 : 5, 1);
            }
            if (b == '(') {
                fine("byte " + b + " as a bracket", (char) b + "ready)", 2);
            } else {
                faulty("byte " + b + " as a bracket", (char) b + "ready)", blank ? 6 : 0, 1);
            }
            if (b == ')') {
                fine("byte " + b + " as a bracket's end", "(ready" + (char) b, 2);
            } else {
                faulty("byte " + b + " as a bracket's end", "(ready" + (char) b, goesOn ? 1 : blank ? 7 : 6, 1);
            }
        }
    }

    private static void answers() {
        CHECK.about(38, "how many ONES (each not, bracket and other one); -1 less the place of a FAULT: it stays");
        fine("one", "ready", 1);
        fine("not", "not ready", 2);
        fine("a bracket", "(ready)", 2);
        fine("each", "not (ready or not shy<1) and on one", 6);
        DumbwaiterYoung x = household();
        CHECK.due("a FAULT at 0", Check.sentence(x, "?"), -1);
        CHECK.due("a FAULT at 1", Check.sentence(x, " ?"), -2);
        CHECK.due("the empty tape", x.sentence(), -1);
        CHECK.about(39, "how many (k NONE), or the k-th. NONE: there is no SENTENCE, none such");
        for (int k = -2; k <= 4; k++) {
            CHECK.due("there is none: said(" + k + ")", x.said(k), -1);
        }
        Check.sentence(x, "number>0");
        CHECK.due("how many", x.said(-1), 3);
        CHECK.due("the first", x.said(0), 1);
        CHECK.due("the last", x.said(2), 3);
        int[] none = {3, 4, -2, Integer.MIN_VALUE, Integer.MAX_VALUE};
        for (int k : none) {
            CHECK.due("none such: said(" + k + ")", x.said(k), -1);
        }
        Check.sentence(x, "number>3");
        CHECK.due("of nobody: how many", x.said(-1), 0);
        CHECK.due("of nobody: the first", x.said(0), -1);
        Check.sentence(x, "number<9");
        CHECK.due("of all: how many", x.said(-1), 4);
        CHECK.due("of all: the last", x.said(3), 3);
        CHECK.due("of all: behind the last", x.said(4), -1);
        CHECK.about(39, "It is said of CHILDREN.");
        DumbwaiterYoung y = Check.with("floor a music 1;");
        Check.sentence(y, "number<9");
        CHECK.due("without CHILDREN: how many", y.said(-1), 0);
        CHECK.due("without CHILDREN: the first", y.said(0), -1);
        CHECK.about(39, "nobody hangs, no SENTENCE");
        CHECK.due("a FAULT: it stays", Check.tower(x, "?"), -1);
        CHECK.due("a FAULT: it stays", x.said(-1), 4);
        Check.tower(x, "child a 1;");
        CHECK.due("a new TOWER: there is none", x.said(-1), -1);
    }

    public static void main(String[] args) {
        bytes();
        ones();
        within();
        conditions();
        plainOnes();
        comparisons();
        answers();
        CHECK.finish();
    }
}
