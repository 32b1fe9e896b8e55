import java.io.IOException;
import java.nio.charset.StandardCharsets;
import java.nio.file.Files;
import java.nio.file.Path;
import java.util.NoSuchElementException;

/** What the tests share: it counts answers that are not as due, and puts texts on tapes. */
final class Check {
    static final String HOUSE = "floor one manners 3;floor two music 2 cold;floor tri faith 4;floor qua manners 5;"
        + "child tom 6;child ann 9;child bob 3;uncle ned 4;uncle sam 5;law manners 6;law music 3;rope 40;grow 4;"
        + "likes one ann 7;likes qua tom 2;";
    static final int THROWN = -999_999;

    private final String name;
    private int asked = 0;
    private int wrong = 0;
    private int edges = 0;
    private String heading = "";
    private String document = null;

    Check(String name) {
        this.name = name;
    }

    void due(String what, long got, long want) {
        asked++;
        if (got != want) {
            wrong++;
            System.out.println(name + ": " + heading + what + " answered " + got + ", due is " + want);
        }
    }

    void yes(String what, boolean got) {
        due(what, got ? 1 : 0, 1);
    }

    void no(String what, boolean got) {
        due(what, got ? 1 : 0, 0);
    }

    /** The promise and the words of the document, as they stand there, that the next answers are about. */
    void about(int promise, String words) {
        heading = promise + ": '" + words + "': ";
        edges++;
        if (document == null) {
            document = plain(readDocument());
        }
        yes("it stands in DOC.md", document.isEmpty() || document.contains(plain(words)));
    }

    private static String plain(String text) {
        return text.replaceAll("\\s+", " ");
    }

    /** The document, or nothing where a checkout has none beside it. */
    private static String readDocument() {
        try {
            return Files.readString(Path.of("../shared/DOC.md"));
        } catch (IOException e) {
            return "";
        }
    }

    void finish() {
        System.out.println(name + ": " + (edges > 0 ? edges + " edges, " : "") + asked + " answers, " + wrong + " not as due");
        if (wrong != 0) {
            System.exit(1);
        }
    }

    /** The tape holds just the text. */
    static void tape(DumbwaiterYoung x, String text) {
        x.end(0);
        byte[] bytes = text.getBytes(StandardCharsets.ISO_8859_1);
        for (int at = 0; at < bytes.length; at += 20) {
            int[] numbers = new int[5];
            for (int i = 0; i < 20; i++) {
                int value = at + i < bytes.length ? bytes[at + i] & 255 : 0;
                numbers[i / 4] = numbers[i / 4] << 8 | value;
            }
            if (x.feed(numbers[0], numbers[1], numbers[2], numbers[3], numbers[4]) == DumbwaiterYoung.NONE) {
                throw new IllegalStateException("the text is longer than a tape");
            }
        }
        if (!x.end(bytes.length)) {
            throw new IllegalStateException("the tape is shorter than the text");
        }
    }

    static int tower(DumbwaiterYoung x, String text) {
        tape(x, text);
        return x.tower();
    }

    static int book(DumbwaiterYoung x, String text, int lives) {
        tape(x, text);
        return x.book(lives);
    }

    static int sentence(DumbwaiterYoung x, String text) {
        tape(x, text);
        return x.sentence();
    }

    static int been(DumbwaiterYoung x, int n, int a, int b, int c, int d) {
        tape(x, "" + (char) a + (char) b + (char) c + (char) d);
        return x.been(n);
    }

    static DumbwaiterYoung with(String text) {
        DumbwaiterYoung x = new DumbwaiterYoung();
        if (tower(x, text) < 0) {
            throw new IllegalStateException("no TOWER: " + text);
        }
        return x;
    }

    /** What child() answers, THROWN if it throws. */
    static int child(DumbwaiterYoung x, int c, int what) {
        try {
            return x.child(c, what);
        } catch (NoSuchElementException e) {
            return THROWN;
        }
    }

    static String cover(DumbwaiterYoung x, int c) {
        int length = x.cover(c);
        StringBuilder text = new StringBuilder();
        for (int i = 0; i < length; i++) {
            text.append((char) x.byteAt(i));
        }
        return text.toString();
    }

    /** All that the object tells of its TOWER and what is so, in one line. */
    static String all(DumbwaiterYoung x) {
        StringBuilder text = new StringBuilder();
        for (int what = 0; what <= 4; what++) {
            text.append(x.count(what)).append(' ');
        }
        for (int what = 0; what <= 7; what++) {
            text.append(x.now(what)).append(' ');
        }
        for (int c = 0; c < x.count(1); c++) {
            for (int what = 0; what <= 6; what++) {
                text.append(child(x, c, what)).append(' ');
            }
            for (int g = 0; g < 4; g++) {
                text.append(x.has(c, g)).append(' ');
            }
        }
        for (int f = 1; f <= x.count(0); f++) {
            for (int what = 0; what <= 3; what++) {
                text.append(x.floor(f, what)).append(' ');
            }
        }
        for (int u = 0; u < x.count(2); u++) {
            text.append(x.uncle(u, 0)).append(' ').append(x.uncle(u, 1)).append(' ');
        }
        for (int g = 0; g < 4; g++) {
            text.append(x.law(g)).append(' ');
        }
        return text.toString();
    }
}
