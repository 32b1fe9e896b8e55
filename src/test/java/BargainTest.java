/** Promises 30 and 31: the BARGAIN, also against all pairings tried plainly. */
public final class BargainTest {
    private static final Check CHECK = new Check("BargainTest");
    private static final String[] GIFT = {"manners", "music", "faith", "letters"};

    private static void plainOnes() {
        DumbwaiterYoung x = Check.with("floor f music 1;child a 1;child b 1;");
        CHECK.due("31: ahead of any", x.bargained(0), -1);
        CHECK.due("31: ahead of any", x.bargained(1), -1);
        Check.tower(x, "");
        CHECK.due("30: an empty TOWER", x.bargain(), 0);
        Check.tower(x, "child a 1;child b 1;");
        CHECK.due("30: no FLOOR", x.bargain(), 0);
        CHECK.due("31: none", x.bargained(0), -1);
        Check.tower(x, "floor f music 1;floor g faith 1;");
        CHECK.due("30: no CHILD", x.bargain(), 0);
        Check.tower(x, "floor f music 1;floor g faith 1;child a 1;");
        CHECK.due("31: ahead of the one of this TOWER", x.bargained(0), -1);
        CHECK.due("30: one pair", x.bargain(), 1);
        CHECK.due("31: of like FLOORS the first", x.bargained(0), 1);
        Check.tower(x, "floor f music 1;floor g faith 1;child a 1;child b 1;child c 1;law faith 1;");
        CHECK.due("31: by the latest", x.bargained(0), 1);
        CHECK.due("30: as many as FLOORS", x.bargain(), 2);
        CHECK.due("31: what it LACKS", x.bargained(0), 2);
        CHECK.due("31: the next", x.bargained(1), 1);
        CHECK.due("31: nothing is left", x.bargained(2), -1);
        CHECK.due("31: no such one", x.bargained(3), -1);
        CHECK.due("31: no such one", x.bargained(-1), -1);
        Check.tower(x, "child a 1;");
        CHECK.due("31: a FLOOR of an earlier TOWER", x.bargained(0), 2);
        CHECK.due("31: a CHILD that the TOWER now has not", x.bargained(1), 1);
    }

    /** What the latest bargain() told stays, whatever becomes of the TOWER. */
    private static void staysTold() {
        DumbwaiterYoung x = Check.with("floor f music 1;child a 1;");
        x.image(0);
        Check.tower(x, "floor a music 1;floor b music 2;floor c music 3;floor d music 4;floor e music 5;floor f music 6;"
            + "child g 1;child h 1;child i 1;child j 1;child k 1;child l 1;law music 9;");
        CHECK.due("30: six pairs", x.bargain(), 6);
        allSix(x, "at once");
        Check.tower(x, "floor f");
        allSix(x, "behind a FAULT");
        Check.tower(x, "");
        allSix(x, "in an empty TOWER");
        x.restore(0);
        allSix(x, "behind restore()");
        CHECK.due("30: one pair", x.bargain(), 1);
        CHECK.due("31: the one", x.bargained(0), 1);
        for (int c = 1; c < 6; c++) {
            CHECK.due("31: none by the latest", x.bargained(c), -1);
        }
        Check.tower(x, "");
        CHECK.due("30: none", x.bargain(), 0);
        CHECK.due("31: none by the latest", x.bargained(0), -1);
        x.restore(0);
        CHECK.due("31: the CHILD is there, but was not then", x.bargained(0), -1);
    }

    private static void allSix(DumbwaiterYoung x, String when) {
        for (int c = 0; c < 6; c++) {
            CHECK.due("31: bargained(" + c + ") " + when, x.bargained(c), 6 - c);
        }
        CHECK.due("31: no such one " + when, x.bargained(6), -1);
        CHECK.due("31: no such one " + when, x.bargained(-1), -1);
        CHECK.due("31: no such one " + when, x.bargained(Integer.MAX_VALUE), -1);
        CHECK.due("31: no such one " + when, x.bargained(Integer.MIN_VALUE), -1);
    }

    private static void served() {
        DumbwaiterYoung x = Check.with("floor f music 9;floor g music 1;child a 1;child b 1;child c 1;law music 9;likes f c 9;likes f a 8;");
        CHECK.due("30: two", x.bargain(), 2);
        CHECK.due("31: the dearest of f", x.bargained(2), 1);
        CHECK.due("31: g likes all alike", x.bargained(0), 2);
        CHECK.due("31: nobody", x.bargained(1), -1);
        x.send(2, 1);
        x.hours(1);
        CHECK.due("30: where it is does not matter", x.bargain(), 2);
        CHECK.due("31: it lacks nothing, so the first is ahead, and f likes it best", x.bargained(2), 1);
        x.serve(2);
        CHECK.due("30: without it", x.bargain(), 2);
        CHECK.due("31: served", x.bargained(2), -1);
        CHECK.due("31: the next dearest", x.bargained(0), 1);
        CHECK.due("31: the other one", x.bargained(1), 2);
    }

    /** Both ways no two would leave for one another: the CHILDREN have what they like best. */
    private static void bestForChildren() {
        DumbwaiterYoung x = Check.with("floor f music 2;floor g faith 2;child a 1;child b 1;law music 2;law faith 3;likes f b 5;likes g a 5;");
        x.send(1, 1);
        x.hours(1);
        x.bargain();
        CHECK.due("31: a likes f best", x.bargained(0), 1);
        CHECK.due("31: b likes g best", x.bargained(1), 2);
    }

    private static void allPairings() {
        int seed = 20261118;
        for (int round = 0; round < 400; round++) {
            seed = seed * 69069 + 1;
            int floors = 1 + (seed >>> 20) % 4;
            seed = seed * 69069 + 1;
            int children = 1 + (seed >>> 20) % 5;
            int[][] likes = new int[floors + 1][children];
            StringBuilder text = new StringBuilder();
            for (int f = 1; f <= floors; f++) {
                seed = seed * 69069 + 1;
                text.append("floor f").append((char) ('a' + f)).append(' ').append(GIFT[(seed >>> 18) % 4]).append(' ').append(1 + (seed >>> 24) % 9).append(';');
            }
            for (int c = 0; c < children; c++) {
                text.append("child c").append((char) ('a' + c)).append(" 1;");
            }
            for (int f = 1; f <= floors; f++) {
                for (int c = 0; c < children; c++) {
                    seed = seed * 69069 + 1;
                    likes[f][c] = (seed >>> 20) % 4;
                    if (likes[f][c] > 0) {
                        text.append("likes f").append((char) ('a' + f)).append(" c").append((char) ('a' + c)).append(' ').append(likes[f][c]).append(';');
                    }
                }
            }
            text.append("law manners 9;law music 9;law faith 9;law letters 9;rope 500;");
            DumbwaiterYoung x = Check.with(text.toString());
            for (int i = 0; i < 3; i++) {
                onePairing(x, likes, floors, children, text.toString());
                x.drawn(6, seed + i);
            }
        }
    }

    private static int childRank(DumbwaiterYoung x, int c, int f) {
        boolean lacks = (Check.child(x, c, 5) >> x.floor(f, 0) & 1) != 0;
        return (lacks ? x.floor(f, 1) : 0) * 100 - f;
    }

    private static void onePairing(DumbwaiterYoung x, int[][] likes, int floors, int children, String text) {
        int[][] rank = new int[children][floors + 1];
        boolean[] there = new boolean[children];
        for (int c = 0; c < children; c++) {
            there[c] = Check.child(x, c, 0) != -1;
            for (int f = 1; f <= floors; f++) {
                rank[c][f] = childRank(x, c, f);
            }
        }
        int[] best = new int[children];
        java.util.Arrays.fill(best, -1);
        tryAll(new int[children], 0, there, rank, likes, best);
        int pairs = 0;
        int due = 0;
        int asked = x.bargain();
        for (int c = 0; c < children; c++) {
            pairs += x.bargained(c) > 0 ? 1 : 0;
            due += best[c] > 0 ? 1 : 0;
            CHECK.due("31: bargained(" + c + ") of " + text, x.bargained(c), best[c] > 0 ? best[c] : -1);
        }
        CHECK.due("30: pairs of " + text, asked, due);
        CHECK.due("30: as told", pairs, due);
    }

    /** Keeps in best what each CHILD has at best in any pairing that nobody would leave. */
    private static void tryAll(int[] floorOf, int c, boolean[] there, int[][] rank, int[][] likes, int[] best) {
        if (c == floorOf.length) {
            if (isStable(floorOf, there, rank, likes)) {
                for (int i = 0; i < c; i++) {
                    if (floorOf[i] > 0 && (best[i] <= 0 || rank[i][floorOf[i]] > rank[i][best[i]])) {
                        best[i] = floorOf[i];
                    }
                }
            }
            return;
        }
        for (int f = 0; f < likes.length; f++) {
            boolean taken = f > 0 && !there[c];
            for (int i = 0; i < c && f > 0; i++) {
                taken |= floorOf[i] == f;
            }
            if (!taken) {
                floorOf[c] = f;
                tryAll(floorOf, c + 1, there, rank, likes, best);
            }
        }
        floorOf[c] = 0;
    }

    private static boolean isStable(int[] floorOf, boolean[] there, int[][] rank, int[][] likes) {
        for (int c = 0; c < floorOf.length; c++) {
            for (int f = 1; f < likes.length && there[c]; f++) {
                boolean childWould = floorOf[c] == 0 || rank[c][f] > rank[c][floorOf[c]];
                boolean floorWould = true;
                for (int i = 0; i < floorOf.length; i++) {
                    if (floorOf[i] == f) {
                        floorWould = likes[f][c] > likes[f][i] || likes[f][c] == likes[f][i] && c < i;
                    }
                }
                if (childWould && floorWould) {
                    return false;
                }
            }
        }
        return true;
    }

    public static void main(String[] args) {
        plainOnes();
        staysTold();
        served();
        bestForChildren();
        allPairings();
        CHECK.finish();
    }
}
