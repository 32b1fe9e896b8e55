/** Promises 38 and 39: SENTENCES, and of whom they may be said. */
public final class SentenceTest {
    private static final Check CHECK = new Check("SentenceTest");

    /** Five CHILDREN: 0 served, 1 on the first FLOOR, 2 on the second, 3 in the cellar, fallen, 4 in the cellar, ready. */
    private static DumbwaiterYoung household() {
        DumbwaiterYoung x = Check.with("floor up music 3 cold;floor top faith 2;child a 4;child b 6;child c 8;child d 20;child e 5;law music 3;rope 40;grow 48;");
        x.send(0, 1);
        x.hours(1);
        x.serve(0);
        x.send(4, 1);
        x.hours(1);
        x.send(4, 0);
        x.send(1, 1);
        x.send(3, 2);
        x.send(2, 2);
        x.hours(1);
        return x;
    }

    private static void said(DumbwaiterYoung x, String text, int ones, int... children) {
        CHECK.due("38: " + text, Check.sentence(x, text), ones);
        CHECK.due("5: " + text, x.fault(), 0);
        CHECK.due("39: how many: " + text, x.said(-1), children.length);
        for (int k = 0; k < children.length; k++) {
            CHECK.due("39: number " + k + ": " + text, x.said(k), children[k]);
        }
        CHECK.due("39: behind the last: " + text, x.said(children.length), -1);
        CHECK.due("39: below: " + text, x.said(-2), -1);
    }

    private static void ones() {
        DumbwaiterYoung x = household();
        said(x, "served", 1, 0);
        said(x, "ready", 1, 0, 1, 4);
        said(x, "talks", 1, 1, 2);
        said(x, "on cellar", 1, 3, 4);
        said(x, "on up", 1, 1);
        said(x, "on top", 1, 2);
        said(x, "lacks music", 1, 2, 3);
        said(x, "lacks manners", 1);
        said(x, "music = 3", 1, 0, 1, 4);
        said(x, "music > 0", 1, 0, 1, 2, 4);
        said(x, "faith=2", 1, 2);
        said(x, "faith>1", 1, 2);
        said(x, "letters<1", 1, 0, 1, 2, 3, 4);
        said(x, "manners>0", 1);
        said(x, "weight<6", 1, 0, 4);
        said(x, "weight=6", 1, 1);
        said(x, "weight>6", 1, 2, 3);
        said(x, "weight>21", 1, 3);
        said(x, "weight=22", 1, 3);
        said(x, "shy=1", 1, 0, 1, 4);
        said(x, "shy<1", 1, 2, 3);
        said(x, "fell>0", 1, 3);
        said(x, "fell=001", 1, 3);
        said(x, "number=2", 1, 2);
        said(x, "number<2", 1, 0, 1);
        said(x, "number > 3", 1, 4);
        said(x, "number < 999", 1, 0, 1, 2, 3, 4);
    }

    private static void joined() {
        DumbwaiterYoung x = household();
        said(x, "not served", 2, 1, 2, 3, 4);
        said(x, "not not served", 3, 0);
        said(x, "(served)", 2, 0);
        said(x, "(((served)))", 4, 0);
        said(x, "not(served or talks)", 4, 3, 4);
        said(x, "not served or talks", 3, 1, 2, 3, 4);
        said(x, "not served and talks", 3, 1, 2);
        said(x, "served or talks and ready", 3, 0, 1);
        said(x, "(served or talks) and ready", 4, 0, 1);
        said(x, "(served or on top) and lacks music", 4, 2);
        said(x, "talks and ready or served", 3, 0, 1);
        said(x, "ready and talks or ready and served or fell>0", 5, 0, 1, 3);
        said(x, "ready and not (talks or served)", 5, 4);
        said(x, "number=0 or number=1 and number=2 or number=3", 4, 0, 3);
        said(x, "number=0 or number=1 or number=2 and ready and served", 5, 0, 1);
        said(x, "not (not (number=1 or number=2) or talks and ready)", 8, 2);
        said(x, " \n on\nup \n", 1, 1);
        said(x, "not not not not not not not served", 8, 1, 2, 3, 4);
        said(x, "(((((((served)))))))", 8, 0);
        said(x, "(((((((served or talks)))))))", 9, 0, 1, 2);
        said(x, "served" + " or served".repeat(19), 20, 0);
        said(x, "served and talks" + " or talks and served".repeat(8), 18);
        Check.sentence(x, "on up");
        x.send(1, 0);
        CHECK.due("39: by what is so now", x.said(-1), 0);
        x.send(3, 1);
        CHECK.due("39: the rope held or not", x.said(-1), Check.child(x, 3, 0) == 1 ? 1 : 0);
    }

    private static void fault(DumbwaiterYoung x, String text, int place, int kind) {
        CHECK.due("38: " + text, Check.sentence(x, text), -1 - place);
        CHECK.due("5: " + text, x.fault(), kind);
        CHECK.due("38: it stays: " + text, x.said(-1), 1);
        CHECK.due("38: it stays: " + text, x.said(0), 2);
    }

    private static void faults() {
        DumbwaiterYoung x = household();
        CHECK.due("39: there is none", x.said(-1), -1);
        CHECK.due("39: there is none", x.said(0), -1);
        Check.sentence(x, "");
        CHECK.due("39: nor behind a FAULT", x.said(-1), -1);
        said(x, "number=2", 1, 2);
        fault(x, "", 0, 1);
        fault(x, "  ", 2, 1);
        fault(x, "served;", 6, 1);
        fault(x, "served served", 7, 1);
        fault(x, "served)", 6, 1);
        fault(x, "(served", 7, 1);
        fault(x, "()", 1, 1);
        fault(x, "(served or)", 10, 1);
        fault(x, "served or", 9, 1);
        fault(x, "served and and", 11, 1);
        fault(x, "or", 0, 1);
        fault(x, "not", 3, 1);
        fault(x, "not or", 4, 1);
        fault(x, "up", 0, 1);
        fault(x, "cold", 0, 1);
        fault(x, "cellar", 0, 1);
        fault(x, "5", 0, 1);
        fault(x, "on", 2, 1);
        fault(x, "on 5", 3, 1);
        fault(x, "on music", 3, 1);
        fault(x, "on a", 3, 3);
        fault(x, "on x", 3, 3);
        fault(x, "lacks", 5, 1);
        fault(x, "lacks weight", 6, 1);
        fault(x, "lacks up", 6, 1);
        fault(x, "music 5", 6, 1);
        fault(x, "music == 5", 7, 1);
        fault(x, "music ( 5", 6, 1);
        fault(x, "music ; 5", 6, 1);
        fault(x, "music <", 7, 1);
        fault(x, "music < up", 8, 1);
        fault(x, "music < 1000", 8, 1);
        fault(x, "music < 5 5", 10, 1);
        fault(x, "music ! 5", 6, 1);
        fault(x, "music", 5, 1);
    }

    private static void limits() {
        DumbwaiterYoung x = household();
        said(x, "number=2", 1, 2);
        fault(x, "served" + " or served".repeat(20), 200, 1);
        fault(x, "ready" + " or ready".repeat(20), 180, 4);
        fault(x, "ready" + " or ready".repeat(19) + " or or", 180, 1);
        fault(x, "ready" + " or ready".repeat(19) + " or", 179, 1);
        fault(x, "ready" + " or ready".repeat(18) + " or not served", 175, 4);
        fault(x, "not ".repeat(8) + "served", 32, 4);
        fault(x, "not ".repeat(8) + "up", 32, 1);
        fault(x, "not ".repeat(9) + "served", 32, 4);
        fault(x, "(".repeat(8) + "served" + ")".repeat(8), 8, 4);
        fault(x, "((((not not not not ready))))", 20, 4);
        fault(x, "served" + " ".repeat(195), 200, 1);
        fault(x, "served" + " ".repeat(192) + "or served", 200, 1);
        fault(x, "served" + " ".repeat(192) + "abcdefgh", 198, 1);
        fault(x, "served" + " ".repeat(192) + "and", 200, 1);
        fault(x, "served or on" + " ".repeat(187) + "xyz", 199, 3);
        fault(x, "served or on" + " ".repeat(187) + "top", 200, 1);
        CHECK.due("38: 200 bytes", Check.sentence(x, "served" + " ".repeat(194)), 1);
        CHECK.due("39: the new one", x.said(0), 0);
    }

    private static void evaluated() {
        DumbwaiterYoung x = Check.with("child a 1;child b 2;child c 3;child d 4;child e 5;child f 6;");
        int seed = 7;
        for (int round = 0; round < 300; round++) {
            StringBuilder text = new StringBuilder();
            seed = seed * 69069 + 1;
            int value = grow(text, new int[] {seed}, 0);
            if (text.length() <= 200 && Check.sentence(x, text.toString()) > 0) {
                int bits = 0;
                for (int k = 0; k < x.said(-1); k++) {
                    bits |= 1 << x.said(k);
                }
                CHECK.due("39: " + text, bits, value);
            }
        }
    }

    /** Writes a condition by draws: of which CHILDREN it holds. */
    private static int grow(StringBuilder text, int[] seed, int depth) {
        int any = 0;
        int alls = 1 + draw(seed, 2);
        for (int i = 0; i < alls; i++) {
            text.append(i > 0 ? " or " : "");
            int all = 63;
            int many = 1 + draw(seed, 3);
            for (int j = 0; j < many; j++) {
                text.append(j > 0 ? " and " : "");
                all &= growOne(text, seed, depth);
            }
            any |= all;
        }
        return any;
    }

    private static int growOne(StringBuilder text, int[] seed, int depth) {
        int choice = draw(seed, depth < 3 ? 6 : 4);
        if (choice == 5) {
            text.append("(");
            int bits = grow(text, seed, depth + 1);
            text.append(")");
            return bits;
        }
        if (choice == 4) {
            text.append("not ");
            return 63 & ~growOne(text, seed, depth + 1);
        }
        int number = draw(seed, 7);
        char sign = "<=>".charAt(draw(seed, 3));
        text.append(choice % 2 == 0 ? "number" : "weight").append(sign).append(number);
        int bits = 0;
        for (int c = 0; c < 6; c++) {
            int amount = choice % 2 == 0 ? c : c + 1;
            boolean is = sign == '<' ? amount < number : sign == '>' ? amount > number : amount == number;
            bits |= is ? 1 << c : 0;
        }
        return bits;
    }

    private static int draw(int[] seed, int n) {
        seed[0] = seed[0] * 69069 + 1;
        return (seed[0] >>> 16) % n;
    }

    public static void main(String[] args) {
        ones();
        joined();
        faults();
        limits();
        evaluated();
        CHECK.finish();
    }
}
