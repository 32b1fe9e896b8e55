/** Promises 32 and 33: COVERS. */
public final class CoverTest {
    private static final Check CHECK = new Check("CoverTest");

    private static void is(DumbwaiterYoung x, int c, String want) {
        String got = Check.cover(x, c);
        CHECK.yes("33: '" + got + "' is '" + want + "'", got.equals(want));
        CHECK.due("32: how many", x.cover(c), want.length());
        CHECK.due("33: behind the last", x.byteAt(want.length()), -1);
        CHECK.due("33: ahead of the first", x.byteAt(-1), -1);
    }

    public static void main(String[] args) {
        DumbwaiterYoung x = new DumbwaiterYoung();
        CHECK.due("33: ahead of any", x.byteAt(0), -1);
        CHECK.due("32: no such one", x.cover(0), -1);
        Check.tower(x, Check.HOUSE);
        is(x, 0, "tom in cellar lacks manners music");
        x.send(0, 2);
        is(x, 0, "tom on two lacks manners music");
        x.hours(2);
        is(x, 0, "tom on two lacks manners");
        x.send(0, 4);
        x.hours(2);
        is(x, 0, "tom on qua ready");
        x.send(0, 0);
        is(x, 0, "tom in cellar ready");
        x.serve(0);
        is(x, 0, "tom served");
        CHECK.due("32: no such one", x.cover(3), -1);
        CHECK.due("32: no such one", x.cover(-1), -1);
        CHECK.due("33: the latest stays", x.byteAt(4), 's');
        CHECK.due("33: the greatest", x.byteAt(Integer.MAX_VALUE), -1);
        CHECK.due("33: the least", x.byteAt(Integer.MIN_VALUE), -1);
        x.back(0);
        CHECK.due("33: a COVER stays as it was", x.byteAt(9), 'd');
        CHECK.due("33: and as long", x.byteAt(10), -1);
        is(x, 0, "tom in cellar lacks manners music");
        DumbwaiterYoung y = Check.with("floor abcdefg music 1;child hijklmn 1;child o 1;law manners 1;law music 9;law faith 9;law letters 9;");
        y.send(0, 1);
        is(y, 0, "hijklmn on abcdefg lacks manners music faith letters");
        is(y, 1, "o in cellar lacks manners music faith letters");
        CHECK.finish();
    }
}
