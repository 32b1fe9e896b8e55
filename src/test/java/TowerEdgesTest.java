/** Edges of a TOWER's text (==== 1), promises 4 and 5: each case names the words of the document that it is about. */
public final class TowerEdgesTest {
    private static final Check CHECK = new Check("TowerEdgesTest");
    private static final String[] GIFTS = {"manners", "music", "faith", "letters"};
    private static final String[] TOLD = {"floor", "cold", "child", "uncle", "law", "likes", "rope", "grow", "manners", "music",
        "faith", "letters", "send", "cellar", "hang", "take", "serve", "back", "hour", "or", "and", "not", "served", "ready",
        "talks", "on", "lacks", "weight", "shy", "fell", "number"};

    private static DumbwaiterYoung fine(String what, String text, int lines) {
        DumbwaiterYoung x = new DumbwaiterYoung();
        CHECK.due("inside, tower(): " + what, Check.tower(x, text), lines);
        CHECK.due("inside, fault(): " + what, x.fault(), 0);
        return x;
    }

    private static void faulty(String what, String text, int place, int kind) {
        DumbwaiterYoung x = Check.with("rope 77;floor stays music 1;child same 3;");
        CHECK.due("outside, tower(): " + what, Check.tower(x, text), -1 - place);
        CHECK.due("outside, fault(): " + what, x.fault(), kind);
        CHECK.due("outside, it stays: " + what, x.count(3) * 100 + x.count(0) * 10 + x.count(1), 7711);
    }

    private static boolean isLetter(int b) {
        return b >= 97 && b <= 122;
    }

    private static boolean isDigit(int b) {
        return b >= 48 && b <= 57;
    }

    private static void blanks() {
        CHECK.about(4, "TOKENS of all texts, with blanks (32, 10) between them or not");
        for (int b = 0; b < 256; b++) {
            String text = "rope" + (char) b + "10;";
            if (b == 32 || b == 10) {
                fine("byte " + b, text, 1);
            } else {
                faulty("byte " + b, text, isLetter(b) || isDigit(b) ? 0 : 4, 1);
            }
        }
        fine("none between a NUMBER and a sign, a sign and a WORD", "rope 10;grow 1;", 2);
        fine("many, ahead, between and behind", " \n\n rope \n 10 \n ; \n grow\n\n1 ; \n", 2);
        faulty("none between two WORDS", "ropegrow 10;", 0, 1);
    }

    private static void words() {
        CHECK.about(4, "WORDS: small letters, 1 to 7");
        String[] begins = {"floor ", "child ", "uncle "};
        String[] ends = {" music 1;", " 1;", " 1;"};
        for (int i = 0; i < 3; i++) {
            fine("1 letter, " + begins[i], begins[i] + "a" + ends[i], 1);
            fine("7 letters, " + begins[i], begins[i] + "abcdxyz" + ends[i], 1);
            faulty("8 letters, " + begins[i], begins[i] + "abcdwxyz" + ends[i], 6, 1);
            faulty("9 letters, " + begins[i], begins[i] + "abcdvwxyz" + ends[i], 6, 1);
        }
        for (int b = 0; b < 256; b++) {
            String text = "child " + (char) b + " 5;";
            if (isLetter(b)) {
                fine("byte " + b, text, 1);
            } else {
                faulty("byte " + b, text, b == 32 || b == 10 ? 8 : 6, 1);
            }
        }
        fine("7 letters each, alike in 6", "floor abcdefg music 1;child abcdefh 1;uncle bbcdefg 1;", 3);
    }

    private static void numbers() {
        CHECK.about(4, "NUMBERS: 1 to 3 digits");
        CHECK.due("inside: 1 digit", fine("1 digit", "law music 7;", 1).law(1), 7);
        CHECK.due("inside: 2 digits", fine("2 digits", "law music 07;", 1).law(1), 7);
        CHECK.due("inside: 3 digits", fine("3 digits", "law music 007;", 1).law(1), 7);
        faulty("4 digits", "law music 0007;", 10, 1);
        faulty("5 digits", "law music 00007;", 10, 1);
        CHECK.due("inside: 3 digits, the greatest", fine("500", "rope 500;", 1).count(3), 500);
        faulty("3 digits, 999 is a NUMBER, though not as told", "rope 999;", 5, 2);
        faulty("4 digits, 1000 is none", "rope 1000;", 5, 1);
        faulty("as many digits as make an int 10 again", "rope 4294967306;", 5, 1);
        for (int b = 0; b < 256; b++) {
            String text = "rope " + (char) b + "0;";
            if (b == 48) {
                faulty("byte " + b + ", 00", text, 5, 2);
            } else if (isDigit(b)) {
                CHECK.due("inside: byte " + b, fine("byte " + b, text, 1).count(3), (b - 48) * 10L);
            } else if (b == 32 || b == 10) {
                faulty("byte " + b + ", a blank", text, 6, 2);
            } else {
                faulty("byte " + b, text, 5, 1);
            }
        }
    }

    private static void runs() {
        CHECK.about(4, "(A WORD, NUMBER goes on as long as small letters and digits do; what is not as told is no TOKEN.)");
        faulty("a letter behind digits", "rope 10a;", 5, 1);
        faulty("a digit behind letters", "rope1 10;", 0, 1);
        faulty("a NAME with a digit", "child a1 1;", 6, 1);
        faulty("a digit, then letters", "child 1a 1;", 6, 1);
        faulty("a WORD right behind a NUMBER", "floor a music 1cold;", 14, 1);
        faulty("a great letter ends a NAME", "child aB 1;", 7, 1);
        for (int b = 0; b < 256; b++) {
            String text = "rope 10" + (char) b;
            if (b == ';') {
                fine("byte " + b + " behind a LINE", text, 1);
            } else if (isLetter(b)) {
                faulty("byte " + b + " goes on with the NUMBER", text, 5, 1);
            } else {
                faulty("byte " + b + " behind a LINE", text, isDigit(b) || b == 32 || b == 10 ? 8 : 7, 1);
            }
        }
    }

    private static void lines() {
        CHECK.about(4, "{ LINE ; }");
        fine("none", "", 0);
        fine("blanks alone", "  \n", 0);
        fine("one", "grow 1;", 1);
        faulty("one without its end", "grow 1", 6, 1);
        faulty("an end without a LINE", ";", 0, 1);
        faulty("two ends", "grow 1;;", 7, 1);
        faulty("two LINES without an end between", "grow 1 rope 10;", 7, 1);
        String[] first = {"a", "1", "send", "hour", "served", "cold", "music", "(", "<"};
        for (String word : first) {
            faulty("begun by " + word, "grow 1;" + word + " 10;", 7, 1);
        }
        CHECK.about(4, "how many LINES");
        StringBuilder text = new StringBuilder("floor a music 1;child b 1;child c 1;uncle d 1;uncle e 1;likes a b 1;likes a c 1;rope 10;grow 1;");
        for (String gift : GIFTS) {
            text.append("law ").append(gift).append(" 1;");
        }
        fine("of every sort, each counted", text.toString(), 13);
    }

    private static void oneNumber(String words, String ahead, int least, int most) {
        CHECK.about(4, words);
        int lines = ahead.split(";").length;
        String begin = ahead.substring(0, ahead.length() - 1);
        fine("the least", begin + least + ";", lines);
        fine("the greatest", begin + most + ";", lines);
        faulty("one less", begin + (least - 1) + ";", begin.length(), 2);
        faulty("one more", begin + (most + 1) + ";", begin.length(), 2);
        faulty("none", begin + ";", begin.length(), 1);
        CHECK.about(5, "2 a NUMBER that is not as told (at it)");
        faulty("0", begin + "0;", begin.length(), 2);
        faulty("999", begin + "999;", begin.length(), 2);
        faulty("1000 is no TOKEN, the least", begin + "1000;", begin.length(), 1);
        faulty("ahead of an end that is missing", begin + (most + 1), begin.length(), 2);
    }

    private static void told() {
        oneNumber("'floor' NAME GIFT N [ 'cold' ] (1 to 9)", "floor a music #", 1, 9);
        oneNumber("'child' NAME N (its WEIGHT: 1 to 20)", "child a #", 1, 20);
        oneNumber("'uncle' NAME N (his WEIGHT: 1 to 20)", "uncle a #", 1, 20);
        oneNumber("'law' GIFT N (1 to 60; each GIFT once; 0 without)", "law faith #", 1, 60);
        oneNumber("'likes' FLOOR CHILD N (1 to 9; each two once; 0 without)", "floor a music 1;child b 1;likes a b #", 1, 9);
        oneNumber("'rope' N (10 to 500; once; 100 without)", "rope #", 10, 500);
        oneNumber("'grow' N (1 to 48; once; 6 without)", "grow #", 1, 48);
    }

    private static void cold() {
        CHECK.about(4, "[ 'cold' ]");
        CHECK.due("inside: without", fine("without", "floor a music 1;", 1).floor(1, 2), 0);
        CHECK.due("inside: with", fine("with", "floor a music 1 cold;", 1).floor(1, 2), 1);
        faulty("twice", "floor a music 1 cold cold;", 21, 1);
        faulty("ahead of the NUMBER", "floor a music cold 1;", 14, 1);
        faulty("of a CHILD", "child a 1 cold;", 10, 1);
        faulty("another WORD", "floor a music 1 warm;", 16, 1);
        CHECK.due("each FLOOR its own", fine("two", "floor a music 1 cold;floor b music 1;", 2).floor(2, 2), 0);
    }

    private static void gifts() {
        CHECK.about(4, "GIFT: 'manners', 'music', 'faith', 'letters', numbered from 0");
        for (int g = 0; g < 4; g++) {
            CHECK.due(GIFTS[g] + " of a FLOOR", fine(GIFTS[g], "floor a " + GIFTS[g] + " 3;", 1).floor(1, 0), g);
            CHECK.due(GIFTS[g] + " of the law", fine(GIFTS[g], "law " + GIFTS[g] + " 3;", 1).law(g), 3);
        }
        for (String word : TOLD) {
            boolean gift = word.equals("manners") || word.equals("music") || word.equals("faith") || word.equals("letters");
            if (!gift) {
                faulty(word + " is no GIFT", "law " + word + " 3;", 4, 1);
                faulty(word + " is no GIFT", "floor a " + word + " 3;", 8, 1);
            }
        }
        faulty("a NAME is no GIFT", "floor a musics 3;", 8, 1);
        faulty("nor one that is told", "floor a a 3;", 8, 1);
    }

    private static void once() {
        CHECK.about(4, "each GIFT once; 0 without");
        DumbwaiterYoung x = fine("each once", "law manners 1;law music 2;law faith 3;law letters 60;", 4);
        CHECK.due("each its own", x.law(0) * 1000 + x.law(1) * 100 + x.law(2) * 10 + x.law(3), 1290);
        x = fine("one of four", "law faith 5;", 1);
        CHECK.due("0 without", x.law(0) * 100 + x.law(1) * 10 + x.law(3), 0);
        CHECK.about(5, "'law' of a GIFT told again (at the GIFT)");
        for (String gift : GIFTS) {
            faulty(gift, "law " + gift + " 1;law " + gift + " 1;", 11 + gift.length(), 3);
            faulty(gift + ", ahead of a NUMBER that is not as told", "law " + gift + " 1;law " + gift + " 0;", 11 + gift.length(), 3);
            faulty(gift + ", at the end", "law " + gift + " 1;law " + gift, 11 + gift.length(), 3);
        }
        CHECK.about(4, "'rope' N (10 to 500; once; 100 without)");
        CHECK.due("100 without", fine("without", "grow 7;", 1).count(3), 100);
        CHECK.due("once", fine("once", "rope 101;", 1).count(3), 101);
        CHECK.about(4, "'grow' N (1 to 48; once; 6 without)");
        CHECK.due("6 without", fine("without", "rope 99;", 1).count(4), 6);
        CHECK.due("once", fine("once", "grow 7;", 1).count(4), 7);
        CHECK.about(5, "'rope', 'grow' told again (at the WORD)");
        faulty("'rope', of what it is without", "rope 100;rope 100;", 9, 3);
        faulty("'grow', of what it is without", "grow 6;grow 6;", 7, 3);
        faulty("'rope', ahead of what comes", "rope 10;grow 1;rope", 15, 3);
        faulty("'grow', ahead of what comes", "grow 1;rope 10;grow 0;", 15, 3);
    }

    private static void likes() {
        CHECK.about(4, "each two once; 0 without");
        String two = "floor f music 1;floor g music 1;child c 1;child d 1;uncle u 1;";
        fine("each two", two + "likes f c 1;likes f d 1;likes g c 1;likes g d 1;", 9);
        CHECK.about(5, "'likes' of two told again (at the CHILD)");
        faulty("the same", two + "likes f c 1;likes f c 1;", 82, 3);
        faulty("behind others", two + "likes f c 9;likes g d 1;likes f d 1;likes g d 0;", 106, 3);
        CHECK.about(4, "'likes' FLOOR CHILD N (1 to 9; each two once; 0 without)");
        DumbwaiterYoung x = fine("without", "floor f music 1;child c 1;child d 1;", 3);
        x.bargain();
        CHECK.due("0 of both: the first", x.bargained(0), 1);
        x = fine("1 of the second", "floor f music 1;child c 1;child d 1;likes f d 1;", 4);
        x.bargain();
        CHECK.due("1 is more than 0", x.bargained(1), 1);
        Check.tower(x, "floor f music 1;child c 1;child d 1;");
        x.bargain();
        CHECK.due("0 without, though an earlier TOWER told it", x.bargained(0), 1);
        x = fine("8 and 9", "floor f music 1;child c 1;child d 1;likes f c 8;likes f d 9;", 5);
        x.bargain();
        CHECK.due("9 is more than 8", x.bargained(1), 1);
        CHECK.about(5, "not told, or of another sort");
        faulty("FLOOR: not told", two + "likes x c 1;", 68, 3);
        faulty("FLOOR: told behind it", "child c 1;likes f c 1;floor f music 1;", 16, 3);
        faulty("FLOOR: a CHILD", two + "likes c c 1;", 68, 3);
        faulty("FLOOR: an UNCLE", two + "likes u c 1;", 68, 3);
        faulty("FLOOR: the cellar, which is no NAME", two + "likes cellar c 1;", 68, 1);
        faulty("CHILD: not told", two + "likes f x 1;", 70, 3);
        faulty("CHILD: a FLOOR", two + "likes f f 1;", 70, 3);
        faulty("CHILD: an UNCLE", two + "likes f u 1;", 70, 3);
        faulty("CHILD: a GIFT, which is no NAME", two + "likes f music 1;", 70, 1);
    }

    private static void names() {
        CHECK.about(4, "NAME: a WORD, none of those told here, in a BOOK or a SENTENCE; told once");
        for (String word : TOLD) {
            faulty("FLOOR " + word, "floor " + word + " music 1;", 6, 1);
            faulty("CHILD " + word, "child " + word + " 1;", 6, 1);
            faulty("UNCLE " + word, "uncle " + word + " 1;", 6, 1);
            String less = word.substring(1);
            fine("without its first letter: " + less, "child " + less + " 1;", 1);
            if (word.length() < 7) {
                fine("with a letter more: " + word + "x", "child " + word + "x 1;", 1);
            }
        }
        fine("a WORD of COVERS alone", "child in 1;", 1);
        CHECK.about(5, "3 a NAME told twice");
        String[] lines = {"floor a music 1;", "child a 1;", "uncle a 1;"};
        for (String first : lines) {
            for (String second : lines) {
                faulty(first + second, first + second, first.length() + 6, 3);
                fine(first + " b", first + second.replace(" a ", " b "), 2);
                faulty("behind others", first + "child x 1;" + second, first.length() + 16, 3);
            }
        }
    }

    /** As many LINES of a sort, each with a NAME of its own. */
    private static String many(String begin, int count, String end) {
        StringBuilder text = new StringBuilder();
        for (int i = 0; i < count; i++) {
            text.append(begin).append(begin.charAt(0)).append((char) ('a' + i)).append(end);
        }
        return text.toString();
    }

    private static void sorts() {
        CHECK.about(4, "8 FLOORS, 6 CHILDREN, 5 UNCLES at most");
        String[] begins = {"floor ", "child ", "uncle "};
        String[] ends = {" music 1;", " 1;", " 1;"};
        int[] most = {8, 6, 5};
        for (int i = 0; i < 3; i++) {
            DumbwaiterYoung x = fine(begins[i] + most[i], many(begins[i], most[i], ends[i]), most[i]);
            CHECK.due("inside: how many", x.count(i), most[i]);
            String full = many(begins[i], most[i], ends[i]);
            faulty(begins[i] + "one more", many(begins[i], most[i] + 1, ends[i]), full.length(), 4);
        }
        String all = many(begins[0], 8, ends[0]) + many(begins[1], 6, ends[1]) + many(begins[2], 5, ends[2]);
        DumbwaiterYoung x = fine("all at once", all, 19);
        CHECK.due("all at once", x.count(0) * 100 + x.count(1) * 10 + x.count(2), 865);
        CHECK.about(5, "4 one more than there may be of a sort");
        for (int i = 0; i < 3; i++) {
            faulty(begins[i] + "at the LINE's first WORD", all + " " + begins[i] + "x" + ends[i], all.length() + 1, 4);
            faulty(begins[i] + "ahead of a NAME told twice", all + begins[i] + "fa" + ends[i], all.length(), 4);
            faulty(begins[i] + "ahead of what can't come", all + begins[i] + "?", all.length(), 4);
            faulty(begins[i] + "at the end", all + begins[i], all.length(), 4);
        }
        CHECK.about(4, "FLOORS are numbered from 1 (0 is the cellar), the others from 0");
        CHECK.due("FLOOR 0", x.floor(0, 1), -1);
        CHECK.due("FLOOR 1", x.floor(1, 1), 1);
        CHECK.due("FLOOR 8", x.floor(8, 1), 1);
        CHECK.due("FLOOR 9", x.floor(9, 1), -1);
        CHECK.due("CHILD -1", Check.child(x, -1, 1), Check.THROWN);
        CHECK.due("CHILD 0", Check.child(x, 0, 1), 1);
        CHECK.due("CHILD 5", Check.child(x, 5, 1), 1);
        CHECK.due("CHILD 6", Check.child(x, 6, 1), Check.THROWN);
        CHECK.due("UNCLE -1", x.uncle(-1, 0), -1);
        CHECK.due("UNCLE 0", x.uncle(0, 0), 1);
        CHECK.due("UNCLE 4", x.uncle(4, 0), 1);
        CHECK.due("UNCLE 5", x.uncle(5, 0), -1);
        CHECK.due("0 is the cellar: it is there", x.send(0, 0), 2);
    }

    private static void bytes() {
        CHECK.about(4, "A TOWER is a text of at most 900 bytes");
        fine("900, the last a blank", "rope 10;" + " ".repeat(892), 1);
        fine("900, the last an end", " ".repeat(892) + "rope 10;", 1);
        faulty("901, the last a blank", "rope 10;" + " ".repeat(893), 900, 1);
        faulty("901, the last an end", " ".repeat(893) + "rope 10;", 900, 1);
        faulty("940", "rope 10;" + " ".repeat(932), 900, 1);
        CHECK.about(5, "the most bytes told, if there are more and no FAULT is ahead: TOKENS that begin ahead of it are read whole");
        faulty("a FAULT at 899", " ".repeat(899) + "?" + " ".repeat(9), 899, 1);
        faulty("what can't come at 900", " ".repeat(900) + "?", 900, 1);
        faulty("far ahead", "rope 9;" + " ".repeat(900), 5, 2);
        faulty("a WORD from 899 on, read whole: it can come", " ".repeat(899) + "rope 10;", 900, 1);
        faulty("a WORD from 900 on is not read", "rope 10;" + " ".repeat(892) + "rope 10;", 900, 1);
        faulty("a WORD from 899 on, read whole: told again", "rope 10;" + " ".repeat(891) + "rope 10;", 899, 3);
        faulty("a NUMBER from 899 on, read whole: 10 is as told", "rope" + " ".repeat(895) + "10;", 900, 1);
        faulty("a NUMBER from 899 on, read whole: 501 is not", "rope" + " ".repeat(895) + "501;", 899, 2);
        faulty("a NUMBER from 900 on is not read", "rope" + " ".repeat(896) + "501;", 900, 1);
        faulty("from 899 on, read whole: no TOKEN", "rope" + " ".repeat(895) + "1000;", 899, 1);
        faulty("from 899 on, read whole: a NAME of 8 letters", "child" + " ".repeat(894) + "abcdefgh 1;", 899, 1);
        faulty("from 899 on, read whole: a NAME of 7 letters", "child" + " ".repeat(894) + "abcdefg 1;", 900, 1);
        CHECK.about(5, "the end: how many bytes there are");
        faulty("899", "rope 10" + " ".repeat(892), 899, 1);
        faulty("900", "rope 10" + " ".repeat(893), 900, 1);
        faulty("4", "rope", 4, 1);
        faulty("5, the last a blank", "rope ", 5, 1);
        faulty("6, the last a blank", "rope \n", 6, 1);
    }

    private static void firstAndLeast() {
        CHECK.about(5, "FAULTS, the first along the text, of one TOKEN the least");
        faulty("kind 3 ahead of kind 1", "child a 1;child a 1;?", 16, 3);
        faulty("kind 1 ahead of kind 3", "child a 1;?child a 1;", 10, 1);
        faulty("kind 2 ahead of kind 1", "rope 9?", 5, 2);
        faulty("kind 2 ahead of kind 3", "child a 21;child a 1;", 8, 2);
        faulty("kind 4 ahead of kind 2", many("uncle ", 5, " 1;") + "uncle x 0;", 55, 4);
        faulty("kind 2 ahead of kind 4", many("uncle ", 4, " 1;") + "uncle x 0;uncle y 1;", 52, 2);
        faulty("no TOKEN, and not as told: kind 1", "rope 0009;", 5, 1);
        faulty("no NAME, and of another sort: kind 1", "floor a music 1;child b 1;likes a rope 1;", 34, 1);
    }

    private static void promiseFour() {
        CHECK.about(4, "The tape (empty then, here and below) is the TOWER now");
        DumbwaiterYoung x = new DumbwaiterYoung();
        Check.tower(x, "grow 2;");
        CHECK.due("without a FAULT", x.count(5), 0);
        Check.tower(x, "grow 0;");
        CHECK.due("with a FAULT", x.count(5), 0);
        CHECK.due("the empty tape is an empty TOWER", x.tower(), 0);
        CHECK.due("so 'grow' is as without", x.count(4), 6);
        CHECK.about(4, "-1 less the place of a FAULT: it stays");
        CHECK.due("place 0", Check.tower(x, "?"), -1);
        CHECK.due("place 1", Check.tower(x, " ?"), -2);
        Check.tower(x, Check.HOUSE);
        x.send(0, 1);
        x.hang(0);
        x.hours(3);
        Check.sentence(x, "ready");
        String was = Check.all(x);
        CHECK.due("a FAULT at the very end", Check.tower(x, "floor z music 1;child y 1"), -26);
        CHECK.yes("all that is so stays", was.equals(Check.all(x)));
        CHECK.due("the SENTENCE stays", x.said(-1), 0);
        CHECK.due("what can be undone stays", x.undo(), 2);
        CHECK.due("its NAMES stay", Check.book(x, "send ann one;hang sam;", 0), 0);
        CHECK.due("as far as it is there", x.told(0), 3);
    }

    private static void promiseFive() {
        CHECK.about(5, "0 without one and ahead of any");
        DumbwaiterYoung x = new DumbwaiterYoung();
        CHECK.due("ahead of any", x.fault(), 0);
        Check.tower(x, "rope 9;");
        CHECK.due("with one", x.fault(), 2);
        Check.tower(x, "rope 10;");
        CHECK.due("without one", x.fault(), 0);
        CHECK.about(5, "The kind of the FAULT of the latest tower(), book() or sentence() (a book() of -1000 leaves it)");
        Check.book(x, "hang x;", 0);
        CHECK.due("of a book()", x.fault(), 3);
        CHECK.due("-1000", Check.book(x, "?", 2), -1000);
        CHECK.due("left by it", x.fault(), 3);
        Check.sentence(x, "?");
        CHECK.due("of a sentence()", x.fault(), 1);
        Check.sentence(x, "ready");
        CHECK.due("of a sentence() without one", x.fault(), 0);
        CHECK.due("-1000", Check.book(x, "?", -1), -1000);
        CHECK.due("0 is left by it, too", x.fault(), 0);
        Check.tower(x, "rope 9;");
        Check.book(x, "", 0);
        CHECK.due("of a book() without one", x.fault(), 0);
        Check.tower(x, "rope 9;");
        x.been(1);
        x.hours(1);
        CHECK.due("other calls leave it", x.fault(), 2);
    }

    public static void main(String[] args) {
        blanks();
        words();
        numbers();
        runs();
        lines();
        told();
        cold();
        gifts();
        once();
        likes();
        names();
        sorts();
        bytes();
        firstAndLeast();
        promiseFour();
        promiseFive();
        CHECK.finish();
    }
}
