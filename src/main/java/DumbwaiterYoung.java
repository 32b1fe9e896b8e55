import java.util.Arrays;
import java.util.NoSuchElementException;

/** A tower whose children are sent from floor to floor by a dumbwaiter till they have what the law wants. */
public final class DumbwaiterYoung {
    public static final int NONE = -1;

    private static final int GIFTS = 4;
    private static final int MOST_FLOORS = 8;
    private static final int MOST_CHILDREN = 6;
    private static final int MOST_UNCLES = 5;
    private static final int MOST_WEIGHT = 60;
    private static final int MOST_OF_A_GIFT = 99;
    private static final int MOST_SHYNESS = 99;
    private static final int ALL_HOURS = 400;
    private static final int MOST_HOURS_A_CALL = 60;
    private static final int LONGEST_WAIT = 200;
    private static final int HOURS_OF_ODDS = 30;
    private static final int MOST_SEEDS = 30;

    private static final int MOST_TAPE = 940;
    private static final int BYTES_FED = 20;
    private static final int TOWER_BYTES = 900;
    private static final int BOOK_BYTES = 400;
    private static final int SENTENCE_BYTES = 200;
    private static final int ANOTHER_LIVES = -1000;
    private static final int MOST_CHALK = 64;

    private static final int NOT_A_TOKEN = 1;
    private static final int WRONG_NUMBER = 2;
    private static final int WRONG_NAME = 3;
    private static final int ONE_TOO_MANY = 4;

    // A BOOK tells why a LINE is WRONG by ten times the deed and why not: the order is the document's.
    private static final int SENDING = 0;
    private static final int HANGING_UP = 1;
    private static final int TAKING_DOWN = 2;
    private static final int SERVING = 3;
    private static final int BRINGING_BACK = 4;
    private static final int WAITING = 5;

    private final int[] tape = new int[MOST_TAPE];
    private int tapeLength = 0;
    private final Reader reader = new Reader();
    private int faultKind = 0;

    private final Tower house = new Tower();
    private final Tower draftHouse = new Tower();
    private final State state = new State();
    private final State trial = new State();
    private final Sentence saying = new Sentence();
    private final Sentence draftSaying = new Sentence();
    private final History history = new History();
    private final Image[] images = {new Image(), new Image()};

    private final Plan latestPlan = new Plan();
    private final Trace latestTrace = new Trace();
    private final Bargain latestBargain = new Bargain();
    private final Book latestBook = new Book();
    private int latestHanging = NONE;
    private final int[] chalk = new int[MOST_CHALK];
    private int chalkLength = 0;

    public DumbwaiterYoung() {
    }

    // ---- the tape ----

    public int feed(int a, int b, int c, int d, int e) {
        if (tapeLength + BYTES_FED > MOST_TAPE) {
            return NONE;
        }
        feedOne(a);
        feedOne(b);
        feedOne(c);
        feedOne(d);
        feedOne(e);
        return tapeLength;
    }

    private void feedOne(int number) {
        for (int shift = 24; shift >= 0 && tapeLength < MOST_TAPE; shift -= 8) {
            tape[tapeLength] = number >>> shift & 255;
            tapeLength++;
        }
    }

    public boolean end(int n) {
        if (n < 0 || n > tapeLength) {
            return false;
        }
        tapeLength = n;
        return true;
    }

    private void openTape(int mostBytes) {
        reader.open(tape, tapeLength, mostBytes);
        tapeLength = 0;
    }

    // ---- the tower and what is so ----

    public int tower() {
        openTape(TOWER_BYTES);
        int lines = draftHouse.readFrom(reader);
        faultKind = reader.faultKind;
        if (reader.failed()) {
            return -1 - reader.faultPlace;
        }
        house.copyFrom(draftHouse);
        state.begin(house);
        saying.clear();
        history.clear();
        return lines;
    }

    public int fault() {
        return faultKind;
    }

    private boolean isChild(int c) {
        return c >= 0 && c < house.children;
    }

    private boolean isFloor(int f) {
        return f >= 1 && f <= house.floors;
    }

    private boolean isUncle(int u) {
        return u >= 0 && u < house.uncles;
    }

    public int child(int c, int what) throws NoSuchElementException {
        if (!isChild(c) || what < 0 || what > 6) {
            throw new NoSuchElementException();
        }
        switch (what) {
            case 0:
                return state.place[c];
            case 1:
                return state.weight[c];
            case 2:
                return state.age[c];
            case 3:
                return state.shyness[c];
            case 4:
                return state.falls[c];
            case 5:
                return state.lacking(house, c);
            default:
                return state.neighbours(house, c);
        }
    }

    public int has(int c, int g) {
        if (!isChild(c) || g < 0 || g >= GIFTS) {
            return NONE;
        }
        return state.amount(c, g);
    }

    public int floor(int f, int what) {
        if (!isFloor(f)) {
            return NONE;
        }
        switch (what) {
            case 0:
                return house.floorGift[f];
            case 1:
                return house.floorGives[f];
            case 2:
                return house.floorCold[f];
            case 3:
                return state.childOn(house, f);
            default:
                return NONE;
        }
    }

    public int uncle(int u, int what) {
        if (!isUncle(u)) {
            return NONE;
        }
        switch (what) {
            case 0:
                return house.uncleWeight[u];
            case 1:
                return state.hangs(u) ? 1 : 0;
            default:
                return NONE;
        }
    }

    public int law(int g) {
        return g >= 0 && g < GIFTS ? house.laws[g] : NONE;
    }

    public int now(int what) {
        switch (what) {
            case 0:
                return state.hour;
            case 1:
                return state.wear;
            case 2:
                return state.ropesRun;
            case 3:
                return state.balance(house);
            case 4:
                return state.servedBits(house);
            case 5:
                return state.readyBits(house);
            case 6:
                return state.upstairsBits(house);
            case 7:
                return state.floorsPassed;
            default:
                return NONE;
        }
    }

    // ---- acts ----

    public int send(int c, int f) {
        if (!isChild(c) || f != 0 && !isFloor(f)) {
            return NONE;
        }
        return perform(SENDING, c, f);
    }

    public int hang(int u) {
        return isUncle(u) ? perform(HANGING_UP, u, 0) : NONE;
    }

    public int take(int u) {
        return isUncle(u) ? perform(TAKING_DOWN, u, 0) : NONE;
    }

    public int serve(int c) {
        return isChild(c) ? perform(SERVING, c, 0) : NONE;
    }

    public int back(int c) {
        return isChild(c) ? perform(BRINGING_BACK, c, 0) : NONE;
    }

    public int hours(int n) {
        if (n < 1 || n > MOST_HOURS_A_CALL) {
            return NONE;
        }
        int going = Math.min(n, ALL_HOURS - state.hour);
        if (going <= 0) {
            return 0;
        }
        perform(WAITING, going, 0);
        return going;
    }

    private int perform(int deed, int who, int where) {
        int why = state.whyNot(house, deed, who, where);
        if (why == 0) {
            history.push(state);
            state.act(house, deed, who, where);
        }
        return why;
    }

    public int undo() {
        return history.pop(state) ? history.size : NONE;
    }

    // ---- questions ----

    public int when(int c) {
        if (!isChild(c) || state.place[c] == NONE) {
            return NONE;
        }
        trial.copyFrom(state);
        for (int waited = 0; waited <= LONGEST_WAIT; waited++) {
            if (trial.lacking(house, c) == 0) {
                return waited;
            }
            if (trial.hour >= ALL_HOURS) {
                return NONE;
            }
            trial.passHour(house);
        }
        return NONE;
    }

    public int plan(int c) {
        if (!isChild(c) || state.place[c] == NONE) {
            return NONE;
        }
        return latestPlan.make(house, state, c);
    }

    public int planAt(int k) {
        return k >= 0 && k < latestPlan.stops ? latestPlan.order[k] : NONE;
    }

    public int passes() {
        return latestPlan.length;
    }

    public int been(int n) {
        int length = tapeLength;
        tapeLength = 0;
        if (n < 1 || n > Trace.MOST_HOURS || length != GIFTS) {
            return NONE;
        }
        return latestTrace.search(house, tape, n);
    }

    public int beenAt(int k) {
        return k >= 0 && k < latestTrace.hours ? latestTrace.first[k] : NONE;
    }

    public int ask() {
        return latestTrace.question;
    }

    public int hung(int c) {
        if (!isChild(c)) {
            return NONE;
        }
        int best = 0;
        int least = state.weight[c];
        for (int bits = 1; bits < 1 << house.uncles; bits++) {
            int off = Math.abs(state.weight[c] - house.weightOf(bits));
            if (off < least || off == least && Integer.bitCount(bits) < Integer.bitCount(best)) {
                best = bits;
                least = off;
            }
        }
        latestHanging = best;
        return least;
    }

    public int hanging() {
        return latestHanging;
    }

    public int holds(int c, int f) {
        if (!isChild(c) || !isFloor(f) || state.place[c] == NONE) {
            return NONE;
        }
        int wearEach = f * state.offBalance(house, c);
        if (wearEach <= 0) {
            return 0;
        }
        return (house.rope - state.wear + wearEach - 1) / wearEach;
    }

    public int web(int c) {
        if (!isChild(c)) {
            return NONE;
        }
        int found = 1 << c;
        for (int round = 1; round < house.children; round++) {
            for (int a = 0; a < house.children; a++) {
                if ((found >> a & 1) != 0) {
                    found |= state.neighbours(house, a);
                }
            }
        }
        return found;
    }

    public int bargain() {
        return latestBargain.settle(house, state);
    }

    // The CHILDREN are those of the latest bargain(), whatever TOWER came since: it left NONE for all others.
    public int bargained(int c) {
        return c >= 0 && c < MOST_CHILDREN ? latestBargain.floorOf[c] : NONE;
    }

    // ---- covers ----

    public int cover(int c) {
        if (!isChild(c)) {
            return NONE;
        }
        chalkLength = 0;
        chalkName(house.childName[c]);
        int place = state.place[c];
        if (place == NONE) {
            chalkText(" served");
            return chalkLength;
        }
        if (isFloor(place)) {
            chalkText(" on ");
            chalkName(house.floorName[place]);
        } else {
            chalkText(" in cellar");
        }
        chalkLacking(state.lacking(house, c));
        return chalkLength;
    }

    private void chalkLacking(int lacking) {
        if (lacking == 0) {
            chalkText(" ready");
            return;
        }
        chalkText(" lacks");
        for (int g = 0; g < GIFTS; g++) {
            if ((lacking >> g & 1) != 0) {
                chalkText(" ");
                chalkName(Word.packedGift(g));
            }
        }
    }

    private void chalkText(String text) {
        for (int i = 0; i < text.length(); i++) {
            chalkByte(text.charAt(i));
        }
    }

    private void chalkName(long packed) {
        for (int shift = 56; shift >= 0; shift -= 8) {
            int letter = (int) (packed >>> shift & 255);
            if (letter != 0) {
                chalkByte(letter);
            }
        }
    }

    private void chalkByte(int value) {
        if (chalkLength < MOST_CHALK) {
            chalk[chalkLength] = value;
            chalkLength++;
        }
    }

    public int byteAt(int i) {
        return i >= 0 && i < chalkLength ? chalk[i] : NONE;
    }

    // ---- draws ----

    public int drawn(int n, int seed) {
        if (n < 1 || n > MOST_HOURS_A_CALL) {
            return NONE;
        }
        if (state.hour >= ALL_HOURS) {
            return 0;
        }
        history.push(state);
        return state.drawHours(house, n, seed);
    }

    public int odds(int c, int n, int seed) {
        if (!isChild(c) || n < 1 || n > MOST_SEEDS) {
            return NONE;
        }
        int served = 0;
        for (int i = 0; i < n; i++) {
            trial.copyFrom(state);
            trial.drawHours(house, HOURS_OF_ODDS, seed + i);
            if (trial.place[c] == NONE) {
                served++;
            }
        }
        return served;
    }

    // ---- books and sentences ----

    public int book(int lives) {
        if (lives != 0 && lives != 1) {
            return ANOTHER_LIVES;
        }
        openTape(BOOK_BYTES);
        latestBook.readFrom(reader, house);
        faultKind = reader.faultKind;
        if (reader.failed()) {
            return -2 - reader.faultPlace;
        }
        trial.copyFrom(state);
        int wrong = latestBook.live(house, trial);
        // A BOOK of which no LINE was lived is nothing that could be undone.
        if (lives == 1 && latestBook.rightLines > 0) {
            history.push(state);
            state.copyFrom(trial);
        }
        return wrong;
    }

    public int told(int what) {
        switch (what) {
            case 0:
                return latestBook.whyWrong;
            case 1:
                return latestBook.rightLines;
            case 2:
                return latestBook.hourThen;
            case 3:
                return latestBook.servedThen;
            default:
                return NONE;
        }
    }

    public int sentence() {
        openTape(SENTENCE_BYTES);
        draftSaying.readFrom(reader, house);
        faultKind = reader.faultKind;
        if (reader.failed()) {
            return -1 - reader.faultPlace;
        }
        saying.copyFrom(draftSaying);
        return saying.ones;
    }

    public int said(int k) {
        if (saying.length == 0) {
            return NONE;
        }
        int found = 0;
        for (int c = 0; c < house.children; c++) {
            if (saying.holdsOf(house, state, c)) {
                if (found == k) {
                    return c;
                }
                found++;
            }
        }
        return k == NONE ? found : NONE;
    }

    // ---- images ----

    public boolean image(int k) {
        if (k < 0 || k >= images.length) {
            return false;
        }
        images[k].keep(house, state, saying);
        return true;
    }

    public boolean restore(int k) {
        if (k < 0 || k >= images.length || !images[k].kept) {
            return false;
        }
        images[k].giveBack(house, state, saying);
        history.clear();
        return true;
    }

    public int count(int what) {
        switch (what) {
            case 0:
                return house.floors;
            case 1:
                return house.children;
            case 2:
                return house.uncles;
            case 3:
                return house.rope;
            case 4:
                return house.grow;
            case 5:
                return tapeLength;
            default:
                return NONE;
        }
    }

    /** The words that no NAME may be; those that can be compared in a SENTENCE have a subject, the GIFTS first. */
    private enum Word {
        FLOOR("floor", NONE),
        COLD("cold", NONE),
        CHILD("child", NONE),
        UNCLE("uncle", NONE),
        LAW("law", NONE),
        LIKES("likes", NONE),
        ROPE("rope", NONE),
        GROW("grow", NONE),
        MANNERS("manners", 0),
        MUSIC("music", 1),
        FAITH("faith", 2),
        LETTERS("letters", 3),
        SEND("send", NONE),
        CELLAR("cellar", NONE),
        HANG("hang", NONE),
        TAKE("take", NONE),
        SERVE("serve", NONE),
        BACK("back", NONE),
        HOUR("hour", NONE),
        OR("or", NONE),
        AND("and", NONE),
        NOT("not", NONE),
        SERVED("served", NONE),
        READY("ready", NONE),
        TALKS("talks", NONE),
        ON("on", NONE),
        LACKS("lacks", NONE),
        WEIGHT("weight", 4),
        SHY("shy", 5),
        FELL("fell", 6),
        NUMBER("number", 7);

        private static final Word[] ALL = values();

        final long packed;
        final int subject;

        Word(String text, int subject) {
            this.packed = pack(text);
            this.subject = subject;
        }

        private static long pack(String text) {
            long packed = 0;
            for (int i = 0; i < text.length(); i++) {
                packed = packed << 8 | text.charAt(i);
            }
            return packed;
        }

        static Word find(long packed) {
            for (Word word : ALL) {
                if (word.packed == packed) {
                    return word;
                }
            }
            return null;
        }

        static long packedGift(int g) {
            for (Word word : ALL) {
                if (word.subject == g) {
                    return word.packed;
                }
            }
            return 0;
        }
    }

    /** The TOKENS of a text, and the first FAULT that is found at one of them. */
    private static final class Reader {
        private static final int END = 0;
        private static final int WORD = 1;
        private static final int NAME = 2;
        private static final int NUMBER = 3;
        private static final int SIGN = 4;
        private static final int NOTHING = 5;
        private static final int LONGEST_WORD = 7;
        private static final int LONGEST_NUMBER = 3;

        private final int[] kinds = new int[MOST_TAPE + 1];
        private final int[] places = new int[MOST_TAPE + 1];
        // A NUMBER, a sign, or the letters of a word, eight bits each: a text would be an object for each word.
        private final long[] values = new long[MOST_TAPE + 1];
        private final Word[] words = new Word[MOST_TAPE + 1];
        private int tokens;
        private int current;
        private boolean tooLong;
        int faultKind;
        int faultPlace;

        void open(int[] text, int length, int mostBytes) {
            tokens = 0;
            current = 0;
            faultKind = 0;
            faultPlace = 0;
            tooLong = length > mostBytes;
            int stop = Math.min(length, mostBytes);
            int at = 0;
            for (int i = 0; i < stop && at < stop; i++) {
                if (isBlank(text[at])) {
                    at++;
                } else if (isLetter(text[at]) || isDigit(text[at])) {
                    at = scanRun(text, at, length);
                } else {
                    add(isSign(text[at]) ? SIGN : NOTHING, at, text[at], null);
                    at++;
                }
            }
            add(END, stop, 0, null);
        }

        private int scanRun(int[] text, int from, int length) {
            int letters = 0;
            int digits = 0;
            long packed = 0;
            int number = 0;
            int at = from;
            for (; at < length && (isLetter(text[at]) || isDigit(text[at])); at++) {
                if (isLetter(text[at])) {
                    letters++;
                    packed = packed << 8 | text[at];
                } else {
                    digits++;
                    number = number * 10 + (text[at] - '0');
                }
            }
            if (digits == 0 && letters <= LONGEST_WORD) {
                Word word = Word.find(packed);
                add(word == null ? NAME : WORD, from, packed, word);
            } else if (letters == 0 && digits <= LONGEST_NUMBER) {
                add(NUMBER, from, number, null);
            } else {
                add(NOTHING, from, 0, null);
            }
            return at;
        }

        private void add(int kind, int place, long value, Word word) {
            if (tokens < kinds.length) {
                kinds[tokens] = kind;
                places[tokens] = place;
                values[tokens] = value;
                words[tokens] = word;
                tokens++;
            }
        }

        private static boolean isBlank(int b) {
            return b == 32 || b == 10;
        }

        private static boolean isLetter(int b) {
            return b >= 'a' && b <= 'z';
        }

        private static boolean isDigit(int b) {
            return b >= '0' && b <= '9';
        }

        private static boolean isSign(int b) {
            return b == ';' || b == '<' || b == '=' || b == '>' || b == '(' || b == ')';
        }

        boolean failed() {
            return faultKind != 0;
        }

        void fail(int kind) {
            if (faultKind == 0) {
                faultKind = kind;
                faultPlace = places[current];
            }
        }

        private void next() {
            if (current < tokens - 1) {
                current++;
            }
        }

        boolean atEnd() {
            return kinds[current] == END;
        }

        boolean isWord(Word word) {
            return words[current] == word;
        }

        boolean isSignNow(char sign) {
            return kinds[current] == SIGN && values[current] == sign;
        }

        /** The NAME here, 0 (which no NAME is) without one. */
        long nameNow() {
            return kinds[current] == NAME ? values[current] : 0;
        }

        /** What a SENTENCE can compare by the word here; NONE without such a word. */
        int subjectNow() {
            Word word = words[current];
            return word == null ? NONE : word.subject;
        }

        int giftNow() {
            int subject = subjectNow();
            return subject < GIFTS ? subject : NONE;
        }

        /** Goes behind the word, if it is here and no FAULT was found: whether it did. */
        boolean skipWord(Word word) {
            if (failed() || !isWord(word)) {
                return false;
            }
            next();
            return true;
        }

        void takeSign(char sign) {
            if (failed()) {
                return;
            }
            if (isSignNow(sign)) {
                next();
            } else {
                fail(NOT_A_TOKEN);
            }
        }

        /** One of the signs that compare. */
        int takeComparison() {
            if (failed()) {
                return NONE;
            }
            int sign = (int) values[current];
            if (isSignNow('<') || isSignNow('=') || isSignNow('>')) {
                next();
            } else {
                fail(NOT_A_TOKEN);
            }
            return sign;
        }

        int takeNumber(int least, int most) {
            if (failed()) {
                return NONE;
            }
            if (kinds[current] != NUMBER) {
                fail(NOT_A_TOKEN);
                return NONE;
            }
            int number = (int) values[current];
            if (number < least || number > most) {
                fail(WRONG_NUMBER);
                return NONE;
            }
            next();
            return number;
        }

        /** Goes behind a NAME, which is at fault unless it is right. */
        void takeName(boolean right) {
            if (failed()) {
                return;
            }
            if (kinds[current] != NAME) {
                fail(NOT_A_TOKEN);
            } else if (!right) {
                fail(WRONG_NAME);
            } else {
                next();
            }
        }

        int takeGift() {
            int gift = giftNow();
            if (failed()) {
                return NONE;
            }
            if (gift == NONE) {
                fail(NOT_A_TOKEN);
            } else {
                next();
            }
            return gift;
        }

        void finish() {
            if (!failed() && (!atEnd() || tooLong)) {
                fail(NOT_A_TOKEN);
            }
        }
    }

    /** What a TOWER's text tells. FLOORS are counted from 1, so their rows have one element more. */
    private static final class Tower {
        private static final int USUAL_ROPE = 100;
        private static final int USUAL_GROW = 6;

        int floors = 0;
        final int[] floorGift = new int[MOST_FLOORS + 1];
        final int[] floorGives = new int[MOST_FLOORS + 1];
        final int[] floorCold = new int[MOST_FLOORS + 1];
        final long[] floorName = new long[MOST_FLOORS + 1];
        int children = 0;
        final int[] childWeight = new int[MOST_CHILDREN];
        final long[] childName = new long[MOST_CHILDREN];
        int uncles = 0;
        final int[] uncleWeight = new int[MOST_UNCLES];
        final long[] uncleName = new long[MOST_UNCLES];
        final int[] laws = new int[GIFTS];
        final int[] likings = new int[(MOST_FLOORS + 1) * MOST_CHILDREN];
        int rope = USUAL_ROPE;
        int grow = USUAL_GROW;

        void copyFrom(Tower other) {
            floors = other.floors;
            children = other.children;
            uncles = other.uncles;
            rope = other.rope;
            grow = other.grow;
            System.arraycopy(other.floorGift, 0, floorGift, 0, floorGift.length);
            System.arraycopy(other.floorGives, 0, floorGives, 0, floorGives.length);
            System.arraycopy(other.floorCold, 0, floorCold, 0, floorCold.length);
            System.arraycopy(other.floorName, 0, floorName, 0, floorName.length);
            System.arraycopy(other.childWeight, 0, childWeight, 0, childWeight.length);
            System.arraycopy(other.childName, 0, childName, 0, childName.length);
            System.arraycopy(other.uncleWeight, 0, uncleWeight, 0, uncleWeight.length);
            System.arraycopy(other.uncleName, 0, uncleName, 0, uncleName.length);
            System.arraycopy(other.laws, 0, laws, 0, laws.length);
            System.arraycopy(other.likings, 0, likings, 0, likings.length);
        }

        int liking(int f, int c) {
            return likings[f * MOST_CHILDREN + c];
        }

        /** What the UNCLES weigh whose bits are set. */
        int weightOf(int uncleBits) {
            int weight = 0;
            for (int u = 0; u < uncles; u++) {
                if ((uncleBits >> u & 1) != 0) {
                    weight += uncleWeight[u];
                }
            }
            return weight;
        }

        /** Reads a whole TOWER: how many LINES it has, if the reader found no FAULT. */
        int readFrom(Reader r) {
            floors = 0;
            children = 0;
            uncles = 0;
            rope = 0;
            grow = 0;
            Arrays.fill(laws, 0);
            Arrays.fill(likings, 0);
            int lines = 0;
            for (; lines < MOST_TAPE && !r.failed() && !r.atEnd(); lines++) {
                readLine(r);
                r.takeSign(';');
            }
            r.finish();
            if (rope == 0) {
                rope = USUAL_ROPE;
            }
            if (grow == 0) {
                grow = USUAL_GROW;
            }
            return lines;
        }

        private void readLine(Reader r) {
            if (r.isWord(Word.FLOOR)) {
                readFloor(r);
            } else if (r.isWord(Word.CHILD)) {
                readChild(r);
            } else if (r.isWord(Word.UNCLE)) {
                readUncle(r);
            } else if (r.isWord(Word.LAW)) {
                readLaw(r);
            } else if (r.isWord(Word.LIKES)) {
                readLikes(r);
            } else if (r.isWord(Word.ROPE)) {
                rope = readOnce(r, Word.ROPE, rope, 10, 500);
            } else if (r.isWord(Word.GROW)) {
                grow = readOnce(r, Word.GROW, grow, 1, 48);
            } else {
                r.fail(NOT_A_TOKEN);
            }
        }

        private void readFloor(Reader r) {
            if (floors >= MOST_FLOORS) {
                r.fail(ONE_TOO_MANY);
            }
            r.skipWord(Word.FLOOR);
            long name = takeNewName(r);
            int gift = r.takeGift();
            int gives = r.takeNumber(1, 9);
            boolean cold = r.skipWord(Word.COLD);
            if (!r.failed()) {
                floors++;
                floorName[floors] = name;
                floorGift[floors] = gift;
                floorGives[floors] = gives;
                floorCold[floors] = cold ? 1 : 0;
            }
        }

        private void readChild(Reader r) {
            if (children >= MOST_CHILDREN) {
                r.fail(ONE_TOO_MANY);
            }
            r.skipWord(Word.CHILD);
            long name = takeNewName(r);
            int weight = r.takeNumber(1, 20);
            if (!r.failed()) {
                childName[children] = name;
                childWeight[children] = weight;
                children++;
            }
        }

        private void readUncle(Reader r) {
            if (uncles >= MOST_UNCLES) {
                r.fail(ONE_TOO_MANY);
            }
            r.skipWord(Word.UNCLE);
            long name = takeNewName(r);
            int weight = r.takeNumber(1, 20);
            if (!r.failed()) {
                uncleName[uncles] = name;
                uncleWeight[uncles] = weight;
                uncles++;
            }
        }

        private void readLaw(Reader r) {
            r.skipWord(Word.LAW);
            int told = r.giftNow();
            if (told != NONE && laws[told] != 0) {
                r.fail(WRONG_NAME);
            }
            int gift = r.takeGift();
            int amount = r.takeNumber(1, 60);
            if (!r.failed() && gift != NONE) {
                laws[gift] = amount;
            }
        }

        private void readLikes(Reader r) {
            r.skipWord(Word.LIKES);
            int f = takeFloor(r);
            int c = childNamed(r.nameNow());
            r.takeName(f != NONE && c != NONE && liking(f, c) == 0);
            int amount = r.takeNumber(1, 9);
            if (!r.failed()) {
                likings[f * MOST_CHILDREN + c] = amount;
            }
        }

        /** Reads what is told once and is 0 till then. */
        private static int readOnce(Reader r, Word word, int before, int least, int most) {
            if (before != 0) {
                r.fail(WRONG_NAME);
            }
            r.skipWord(word);
            return r.takeNumber(least, most);
        }

        private long takeNewName(Reader r) {
            long name = r.nameNow();
            r.takeName(floorNamed(name) == NONE && childNamed(name) == NONE && uncleNamed(name) == NONE);
            return name;
        }

        private int takeFloor(Reader r) {
            int f = floorNamed(r.nameNow());
            r.takeName(f != NONE);
            return f;
        }

        int takeChild(Reader r) {
            int c = childNamed(r.nameNow());
            r.takeName(c != NONE);
            return c;
        }

        int takeUncle(Reader r) {
            int u = uncleNamed(r.nameNow());
            r.takeName(u != NONE);
            return u;
        }

        int takeFloorOrCellar(Reader r) {
            if (r.skipWord(Word.CELLAR)) {
                return 0;
            }
            int f = floorNamed(r.nameNow());
            r.takeName(f != NONE);
            return f;
        }

        private int floorNamed(long name) {
            for (int f = 1; f <= floors; f++) {
                if (floorName[f] == name) {
                    return f;
                }
            }
            return NONE;
        }

        private int childNamed(long name) {
            for (int c = 0; c < children; c++) {
                if (childName[c] == name) {
                    return c;
                }
            }
            return NONE;
        }

        private int uncleNamed(long name) {
            for (int u = 0; u < uncles; u++) {
                if (uncleName[u] == name) {
                    return u;
                }
            }
            return NONE;
        }
    }

    /** What is so in a TOWER. It is told its TOWER with each call, so that it can be copied as it is. */
    private static final class State {
        final int[] place = new int[MOST_CHILDREN];
        final int[] weight = new int[MOST_CHILDREN];
        final int[] age = new int[MOST_CHILDREN];
        final int[] shyness = new int[MOST_CHILDREN];
        final int[] falls = new int[MOST_CHILDREN];
        private final int[] gifts = new int[MOST_CHILDREN * GIFTS];
        private int hangingBits = 0;
        int wear = 0;
        int ropesRun = 0;
        int floorsPassed = 0;
        int hour = 0;

        void begin(Tower t) {
            Arrays.fill(place, 0);
            System.arraycopy(t.childWeight, 0, weight, 0, weight.length);
            Arrays.fill(age, 0);
            Arrays.fill(shyness, 0);
            Arrays.fill(falls, 0);
            Arrays.fill(gifts, 0);
            hangingBits = 0;
            wear = 0;
            ropesRun = 0;
            floorsPassed = 0;
            hour = 0;
        }

        void copyFrom(State other) {
            System.arraycopy(other.place, 0, place, 0, place.length);
            System.arraycopy(other.weight, 0, weight, 0, weight.length);
            System.arraycopy(other.age, 0, age, 0, age.length);
            System.arraycopy(other.shyness, 0, shyness, 0, shyness.length);
            System.arraycopy(other.falls, 0, falls, 0, falls.length);
            System.arraycopy(other.gifts, 0, gifts, 0, gifts.length);
            hangingBits = other.hangingBits;
            wear = other.wear;
            ropesRun = other.ropesRun;
            floorsPassed = other.floorsPassed;
            hour = other.hour;
        }

        int amount(int c, int g) {
            return gifts[c * GIFTS + g];
        }

        boolean hangs(int u) {
            return (hangingBits >> u & 1) != 0;
        }

        int balance(Tower t) {
            return t.weightOf(hangingBits);
        }

        int offBalance(Tower t, int c) {
            return Math.abs(weight[c] - t.weightOf(hangingBits));
        }

        int lacking(Tower t, int c) {
            int bits = 0;
            for (int g = 0; g < GIFTS; g++) {
                if (amount(c, g) < t.laws[g]) {
                    bits |= 1 << g;
                }
            }
            return bits;
        }

        private boolean areNeighbours(int a, int b) {
            return place[a] > 0 && place[b] > 0 && Math.abs(place[a] - place[b]) == 1;
        }

        int neighbours(Tower t, int c) {
            int bits = 0;
            for (int other = 0; other < t.children; other++) {
                if (areNeighbours(c, other)) {
                    bits |= 1 << other;
                }
            }
            return bits;
        }

        int childOn(Tower t, int f) {
            for (int c = 0; c < t.children; c++) {
                if (place[c] == f) {
                    return c;
                }
            }
            return NONE;
        }

        int servedBits(Tower t) {
            int bits = 0;
            for (int c = 0; c < t.children; c++) {
                if (place[c] == NONE) {
                    bits |= 1 << c;
                }
            }
            return bits;
        }

        int readyBits(Tower t) {
            int bits = 0;
            for (int c = 0; c < t.children; c++) {
                if (place[c] != NONE && lacking(t, c) == 0) {
                    bits |= 1 << c;
                }
            }
            return bits;
        }

        int upstairsBits(Tower t) {
            int bits = 0;
            for (int c = 0; c < t.children; c++) {
                if (place[c] > 0) {
                    bits |= 1 << c;
                }
            }
            return bits;
        }

        /** Why a deed can't be done, 0 if it can; for WAITING who is how many HOURS. */
        int whyNot(Tower t, int deed, int who, int where) {
            switch (deed) {
                case SENDING:
                    return whyNotSent(t, who, where);
                case HANGING_UP:
                    return hangs(who) ? 1 : 0;
                case TAKING_DOWN:
                    return hangs(who) ? 0 : 1;
                case SERVING:
                    return whyNotServed(t, who);
                case BRINGING_BACK:
                    return place[who] == NONE ? 0 : 1;
                default:
                    return who > ALL_HOURS - hour ? 1 : 0;
            }
        }

        private int whyNotSent(Tower t, int c, int f) {
            if (place[c] == NONE) {
                return 1;
            }
            if (place[c] == f) {
                return 2;
            }
            return f > 0 && childOn(t, f) != NONE ? 3 : 0;
        }

        private int whyNotServed(Tower t, int c) {
            if (place[c] == NONE) {
                return 1;
            }
            return lacking(t, c) != 0 ? 2 : 0;
        }

        /** Does a deed that can be done. */
        void act(Tower t, int deed, int who, int where) {
            switch (deed) {
                case SENDING:
                    moveTo(t, who, where);
                    break;
                case HANGING_UP:
                    hangingBits |= 1 << who;
                    break;
                case TAKING_DOWN:
                    hangingBits &= ~(1 << who);
                    break;
                case SERVING:
                    place[who] = NONE;
                    break;
                case BRINGING_BACK:
                    bringBack(who);
                    break;
                default:
                    for (int i = 0; i < who; i++) {
                        passHour(t);
                    }
                    break;
            }
        }

        private void moveTo(Tower t, int c, int f) {
            int passed = Math.abs(place[c] - f);
            floorsPassed += passed;
            wear += passed * offBalance(t, c);
            if (wear < t.rope) {
                place[c] = f;
                return;
            }
            place[c] = 0;
            falls[c]++;
            weight[c] = Math.min(weight[c] + 2, MOST_WEIGHT);
            ropesRun++;
            wear = 0;
        }

        private void bringBack(int c) {
            place[c] = 0;
            shyness[c] = 0;
            for (int g = 0; g < GIFTS; g++) {
                gifts[c * GIFTS + g] = 0;
            }
        }

        void passHour(Tower t) {
            for (int c = 0; c < t.children; c++) {
                if (place[c] > 0) {
                    receive(t, c, place[c]);
                }
            }
            for (int a = 0; a < t.children; a++) {
                for (int b = a + 1; b < t.children; b++) {
                    if (areNeighbours(a, b)) {
                        talk(a, b);
                    }
                }
            }
            for (int c = 0; c < t.children; c++) {
                if (place[c] != NONE) {
                    growOlder(t, c);
                }
            }
            hour++;
        }

        private void receive(Tower t, int c, int f) {
            int at = c * GIFTS + t.floorGift[f];
            gifts[at] = Math.min(gifts[at] + t.floorGives[f], MOST_OF_A_GIFT);
            shyness[c] = Math.min(shyness[c] + t.floorCold[f], MOST_SHYNESS);
        }

        private void talk(int a, int b) {
            for (int g = 0; g < GIFTS; g++) {
                int more = amount(a, g) - amount(b, g);
                if (more >= 2) {
                    gifts[b * GIFTS + g]++;
                    return;
                }
                if (more <= -2) {
                    gifts[a * GIFTS + g]++;
                    return;
                }
            }
        }

        private void growOlder(Tower t, int c) {
            age[c]++;
            if (t.grow > 0 && age[c] % t.grow == 0) {
                weight[c] = Math.min(weight[c] + 1, MOST_WEIGHT);
            }
        }

        /** Lets HOURS go by draws, till all are over: how many went. */
        int drawHours(Tower t, int n, int seed) {
            int x = seed;
            int gone = 0;
            for (; gone < n && hour < ALL_HOURS; gone++) {
                x = drawDeeds(t, x);
                passHour(t);
            }
            return gone;
        }

        private int drawDeeds(Tower t, int seed) {
            int x = seed;
            for (int c = 0; c < t.children; c++) {
                if (place[c] == NONE) {
                    continue;
                }
                x = nextDraw(x);
                int choice = drawOf(x, 4);
                if (choice == 0) {
                    x = nextDraw(x);
                    int f = drawOf(x, t.floors + 1);
                    if (whyNotSent(t, c, f) == 0) {
                        moveTo(t, c, f);
                    }
                } else if (choice == 1 && whyNotServed(t, c) == 0) {
                    place[c] = NONE;
                }
            }
            return x;
        }

        private static int nextDraw(int x) {
            return x * 1103515245 + 12345;
        }

        private static int drawOf(int x, int n) {
            return n > 0 ? (x >>> 8) % n : 0;
        }
    }

    /** What was so ahead of the latest acts: a ring, whose oldest gives way. */
    private static final class History {
        private static final int MOST_KEPT = 8;

        private final State[] kept = new State[MOST_KEPT];
        private int top = 0;
        int size = 0;

        History() {
            for (int i = 0; i < MOST_KEPT; i++) {
                kept[i] = new State();
            }
        }

        void clear() {
            size = 0;
        }

        void push(State state) {
            kept[top].copyFrom(state);
            top = (top + 1) % MOST_KEPT;
            size = Math.min(size + 1, MOST_KEPT);
        }

        boolean pop(State state) {
            if (size == 0) {
                return false;
            }
            top = (top + MOST_KEPT - 1) % MOST_KEPT;
            size--;
            state.copyFrom(kept[top]);
            return true;
        }
    }

    /** One place where all that is so is kept. */
    private static final class Image {
        private final Tower house = new Tower();
        private final State state = new State();
        private final Sentence saying = new Sentence();
        boolean kept = false;

        void keep(Tower fromHouse, State fromState, Sentence fromSaying) {
            house.copyFrom(fromHouse);
            state.copyFrom(fromState);
            saying.copyFrom(fromSaying);
            kept = true;
        }

        void giveBack(Tower toHouse, State toState, Sentence toSaying) {
            toHouse.copyFrom(house);
            toState.copyFrom(state);
            toSaying.copyFrom(saying);
        }
    }

    /** The latest PLAN. */
    private static final class Plan {
        private final int[] chosen = new int[GIFTS];
        private final int[] picked = new int[GIFTS];
        final int[] order = new int[GIFTS];
        int stops = 0;
        int length = NONE;

        /** The HOURS of a CHILD's PLAN; NONE, and the latest stays, if nothing gives what it LACKS. */
        int make(Tower t, State s, int c) {
            int lacking = s.lacking(t, c);
            int found = 0;
            int hours = 0;
            for (int g = 0; g < GIFTS; g++) {
                if ((lacking >> g & 1) != 0) {
                    int f = richestFloor(t, g);
                    if (f == NONE || t.floorGives[f] <= 0) {
                        return NONE;
                    }
                    insert(f, found);
                    found++;
                    hours += (t.laws[g] - s.amount(c, g) + t.floorGives[f] - 1) / t.floorGives[f];
                }
            }
            stops = found;
            findOrder(s.place[c]);
            return hours;
        }

        private static int richestFloor(Tower t, int g) {
            int best = NONE;
            for (int f = 1; f <= t.floors; f++) {
                if (t.floorGift[f] == g && (best == NONE || t.floorGives[f] > t.floorGives[best])) {
                    best = f;
                }
            }
            return best;
        }

        /** Keeps the chosen FLOORS in their order, so that the first order tried is the least. */
        private void insert(int f, int found) {
            int at = found;
            for (; at > 0 && chosen[at - 1] > f; at--) {
                chosen[at] = chosen[at - 1];
            }
            chosen[at] = f;
        }

        private void findOrder(int from) {
            int tries = 1;
            for (int i = 0; i < stops; i++) {
                tries *= stops;
            }
            length = NONE;
            for (int code = 0; code < tries; code++) {
                if (pick(code)) {
                    int passed = pickedLength(from);
                    if (length == NONE || passed < length) {
                        length = passed;
                        System.arraycopy(picked, 0, order, 0, stops);
                    }
                }
            }
        }

        /** Picks FLOORS by the digits of a number: whether each is picked once. */
        private boolean pick(int code) {
            int rest = code;
            int seen = 0;
            for (int i = stops - 1; i >= 0; i--) {
                int digit = rest % stops;
                rest /= stops;
                picked[i] = chosen[digit];
                seen |= 1 << digit;
            }
            return Integer.bitCount(seen) == stops;
        }

        private int pickedLength(int from) {
            int passed = 0;
            int at = from;
            for (int i = 0; i < stops; i++) {
                passed += Math.abs(picked[i] - at);
                at = picked[i];
            }
            return passed;
        }
    }

    /** Where one has been by what it has: the first of the latest rows, and the question that tells most of them. */
    private static final class Trace {
        private static final int MOST_HOURS = 4;

        private final int[] missing = new int[GIFTS];
        private final int[] row = new int[MOST_HOURS];
        private final int[] seen = new int[MOST_HOURS * (MOST_FLOORS + 1)];
        private int rows = 0;
        final int[] first = new int[MOST_HOURS];
        int hours = 0;
        int question = NONE;

        /** How many rows there are for what the tape tells; if there is none, the latest stays. */
        int search(Tower t, int[] tape, int n) {
            for (int g = 0; g < GIFTS; g++) {
                missing[g] = tape[g];
            }
            Arrays.fill(seen, 0);
            rows = 0;
            walk(t, 0, n);
            if (rows > 0) {
                question = bestQuestion(n);
            }
            return rows;
        }

        // In so few HOURS no CHILD has 99 of a GIFT, so the most that it may have never matters.
        private void walk(Tower t, int depth, int n) {
            if (depth >= n || depth >= MOST_HOURS) {
                noteRow(n);
                return;
            }
            row[depth] = 0;
            walk(t, depth + 1, n);
            for (int f = 1; f <= t.floors; f++) {
                int gift = t.floorGift[f];
                if (missing[gift] >= t.floorGives[f]) {
                    missing[gift] -= t.floorGives[f];
                    row[depth] = f;
                    walk(t, depth + 1, n);
                    missing[gift] += t.floorGives[f];
                }
            }
        }

        private void noteRow(int n) {
            for (int g = 0; g < GIFTS; g++) {
                if (missing[g] != 0) {
                    return;
                }
            }
            if (rows == 0) {
                hours = n;
                System.arraycopy(row, 0, first, 0, n);
            }
            rows++;
            for (int h = 0; h < n; h++) {
                seen[h * (MOST_FLOORS + 1) + row[h]]++;
            }
        }

        private int bestQuestion(int n) {
            int best = 0;
            int least = rows + 1;
            for (int h = 0; h < n; h++) {
                int most = 0;
                for (int f = 0; f <= MOST_FLOORS; f++) {
                    most = Math.max(most, seen[h * (MOST_FLOORS + 1) + f]);
                }
                if (most < least) {
                    least = most;
                    best = h;
                }
            }
            return best;
        }
    }

    /** The latest BARGAIN: CHILDREN offer, FLOORS choose, which is the best of all for the CHILDREN. */
    private static final class Bargain {
        private final int[] childOf = new int[MOST_FLOORS + 1];
        private final int[] refusals = new int[MOST_CHILDREN];
        final int[] floorOf = new int[MOST_CHILDREN];

        Bargain() {
            Arrays.fill(floorOf, NONE);
        }

        int settle(Tower t, State s) {
            Arrays.fill(childOf, NONE);
            Arrays.fill(refusals, 0);
            Arrays.fill(floorOf, NONE);
            // No CHILD offers itself to a FLOOR twice.
            for (int i = 0; i < MOST_CHILDREN * MOST_FLOORS; i++) {
                if (!makeOffer(t, s)) {
                    break;
                }
            }
            int pairs = 0;
            for (int c = 0; c < t.children; c++) {
                if (floorOf[c] != NONE) {
                    pairs++;
                }
            }
            return pairs;
        }

        /** The first CHILD that has no FLOOR and can still ask one does: whether there was one. */
        private boolean makeOffer(Tower t, State s) {
            for (int c = 0; c < t.children; c++) {
                if (s.place[c] != NONE && floorOf[c] == NONE) {
                    int f = dearestFloor(t, s.lacking(t, c), refusals[c]);
                    if (f != NONE) {
                        choose(t, f, c);
                        return true;
                    }
                }
            }
            return false;
        }

        private static int dearestFloor(Tower t, int lacking, int refused) {
            int best = NONE;
            int most = NONE;
            for (int f = 1; f <= t.floors; f++) {
                int worth = (lacking >> t.floorGift[f] & 1) != 0 ? t.floorGives[f] : 0;
                if ((refused >> f & 1) == 0 && worth > most) {
                    best = f;
                    most = worth;
                }
            }
            return best;
        }

        private void choose(Tower t, int f, int c) {
            int rival = childOf[f];
            if (rival == NONE) {
                childOf[f] = c;
                floorOf[c] = f;
                return;
            }
            int more = t.liking(f, c) - t.liking(f, rival);
            if (more > 0 || more == 0 && c < rival) {
                childOf[f] = c;
                floorOf[c] = f;
                floorOf[rival] = NONE;
                refusals[rival] |= 1 << f;
            } else {
                refusals[c] |= 1 << f;
            }
        }
    }

    /** A BOOK's LINES, and what the latest one told. */
    private static final class Book {
        private static final int MOST_LINES = 40;

        private final int[] deeds = new int[MOST_LINES];
        private final int[] whos = new int[MOST_LINES];
        private final int[] wheres = new int[MOST_LINES];
        private int lines = 0;
        int whyWrong = NONE;
        int rightLines = NONE;
        int hourThen = NONE;
        int servedThen = NONE;

        void readFrom(Reader r, Tower t) {
            lines = 0;
            for (int i = 0; i <= MOST_LINES && !r.failed() && !r.atEnd(); i++) {
                readLine(r, t);
                r.takeSign(';');
            }
            r.finish();
        }

        private void readLine(Reader r, Tower t) {
            int deed = deedNow(r);
            if (deed == NONE) {
                r.fail(NOT_A_TOKEN);
                return;
            }
            if (lines >= MOST_LINES) {
                r.fail(ONE_TOO_MANY);
                return;
            }
            r.next();
            deeds[lines] = deed;
            whos[lines] = takeWho(r, t, deed);
            wheres[lines] = deed == SENDING ? t.takeFloorOrCellar(r) : 0;
            lines++;
        }

        private static int deedNow(Reader r) {
            if (r.isWord(Word.SEND)) {
                return SENDING;
            }
            if (r.isWord(Word.HANG)) {
                return HANGING_UP;
            }
            if (r.isWord(Word.TAKE)) {
                return TAKING_DOWN;
            }
            if (r.isWord(Word.SERVE)) {
                return SERVING;
            }
            if (r.isWord(Word.BACK)) {
                return BRINGING_BACK;
            }
            return r.isWord(Word.HOUR) ? WAITING : NONE;
        }

        private static int takeWho(Reader r, Tower t, int deed) {
            if (deed == WAITING) {
                return r.takeNumber(1, MOST_HOURS_A_CALL);
            }
            if (deed == HANGING_UP || deed == TAKING_DOWN) {
                return t.takeUncle(r);
            }
            return t.takeChild(r);
        }

        /** Does the LINES till one is WRONG: which one, or NONE. */
        int live(Tower t, State s) {
            whyWrong = 0;
            rightLines = 0;
            for (int i = 0; i < lines && whyWrong == 0; i++) {
                int why = s.whyNot(t, deeds[i], whos[i], wheres[i]);
                if (why == 0) {
                    s.act(t, deeds[i], whos[i], wheres[i]);
                    rightLines++;
                } else {
                    whyWrong = 10 * deeds[i] + why;
                }
            }
            hourThen = s.hour;
            servedThen = s.servedBits(t);
            return whyWrong == 0 ? NONE : rightLines;
        }
    }

    /** A SENTENCE: its ONES and what joins them, each behind what it is about. */
    private static final class Sentence {
        private static final int MOST_ONES = 20;
        private static final int MOST_WITHIN = 8;
        private static final int MOST_STEPS = 2 * MOST_ONES;

        private static final int IS_SERVED = 0;
        private static final int IS_READY = 1;
        private static final int TALKS = 2;
        private static final int IS_ON = 3;
        private static final int LACKS = 4;
        private static final int COMPARES = 5;
        private static final int NOT = 6;
        private static final int AND = 7;
        private static final int OR = 8;

        private final int[] steps = new int[MOST_STEPS];
        private final int[] subjects = new int[MOST_STEPS];
        private final int[] signs = new int[MOST_STEPS];
        private final int[] numbers = new int[MOST_STEPS];
        int length = 0;
        int ones = 0;

        void clear() {
            length = 0;
            ones = 0;
        }

        void copyFrom(Sentence other) {
            System.arraycopy(other.steps, 0, steps, 0, steps.length);
            System.arraycopy(other.subjects, 0, subjects, 0, subjects.length);
            System.arraycopy(other.signs, 0, signs, 0, signs.length);
            System.arraycopy(other.numbers, 0, numbers, 0, numbers.length);
            length = other.length;
            ones = other.ones;
        }

        void readFrom(Reader r, Tower t) {
            clear();
            readCondition(r, t, 1);
            r.finish();
        }

        private void readCondition(Reader r, Tower t, int depth) {
            boolean joinsOr = false;
            boolean joinsAnd = false;
            for (int i = 0; i <= MOST_ONES && !r.failed(); i++) {
                readOne(r, t, depth);
                if (joinsAnd) {
                    add(AND, 0, 0, 0);
                }
                joinsAnd = r.skipWord(Word.AND);
                if (!joinsAnd) {
                    if (joinsOr) {
                        add(OR, 0, 0, 0);
                    }
                    joinsOr = r.skipWord(Word.OR);
                    if (!joinsOr) {
                        return;
                    }
                }
            }
        }

        private void readOne(Reader r, Tower t, int depth) {
            if (!beginsOne(r)) {
                r.fail(NOT_A_TOKEN);
                return;
            }
            if (ones >= MOST_ONES || depth > MOST_WITHIN) {
                r.fail(ONE_TOO_MANY);
                return;
            }
            ones++;
            if (r.skipWord(Word.NOT)) {
                readOne(r, t, depth + 1);
                add(NOT, 0, 0, 0);
            } else if (r.isSignNow('(')) {
                r.takeSign('(');
                readCondition(r, t, depth + 1);
                r.takeSign(')');
            } else {
                readSimple(r, t);
            }
        }

        private static boolean beginsOne(Reader r) {
            return r.isSignNow('(') || r.isWord(Word.NOT) || r.isWord(Word.SERVED) || r.isWord(Word.READY)
                || r.isWord(Word.TALKS) || r.isWord(Word.ON) || r.isWord(Word.LACKS) || r.subjectNow() != NONE;
        }

        private void readSimple(Reader r, Tower t) {
            if (r.skipWord(Word.SERVED)) {
                add(IS_SERVED, 0, 0, 0);
            } else if (r.skipWord(Word.READY)) {
                add(IS_READY, 0, 0, 0);
            } else if (r.skipWord(Word.TALKS)) {
                add(TALKS, 0, 0, 0);
            } else if (r.skipWord(Word.ON)) {
                add(IS_ON, 0, 0, t.takeFloorOrCellar(r));
            } else if (r.skipWord(Word.LACKS)) {
                add(LACKS, 0, 0, r.takeGift());
            } else {
                int subject = r.subjectNow();
                r.next();
                int sign = r.takeComparison();
                add(COMPARES, subject, sign, r.takeNumber(0, 999));
            }
        }

        private void add(int step, int subject, int sign, int number) {
            if (length < MOST_STEPS) {
                steps[length] = step;
                subjects[length] = subject;
                signs[length] = sign;
                numbers[length] = number;
                length++;
            }
        }

        /** Whether it may be said of a CHILD. The answers so far are bits, the latest the lowest. */
        boolean holdsOf(Tower t, State s, int c) {
            int answers = 0;
            for (int i = 0; i < length; i++) {
                int latest = answers & 1;
                switch (steps[i]) {
                    case NOT:
                        answers ^= 1;
                        break;
                    case AND:
                        answers = answers >>> 1 & (latest | ~1);
                        break;
                    case OR:
                        answers = answers >>> 1 | latest;
                        break;
                    default:
                        answers = answers << 1 | (isTrue(t, s, c, i) ? 1 : 0);
                        break;
                }
            }
            return (answers & 1) != 0;
        }

        private boolean isTrue(Tower t, State s, int c, int i) {
            switch (steps[i]) {
                case IS_SERVED:
                    return s.place[c] == NONE;
                case IS_READY:
                    return s.lacking(t, c) == 0;
                case TALKS:
                    return s.neighbours(t, c) != 0;
                case IS_ON:
                    return s.place[c] == numbers[i];
                case LACKS:
                    return (s.lacking(t, c) >> numbers[i] & 1) != 0;
                default:
                    return compares(amountOf(s, c, subjects[i]), signs[i], numbers[i]);
            }
        }

        private static int amountOf(State s, int c, int subject) {
            switch (subject) {
                case 4:
                    return s.weight[c];
                case 5:
                    return s.shyness[c];
                case 6:
                    return s.falls[c];
                case 7:
                    return c;
                default:
                    return subject >= 0 && subject < GIFTS ? s.amount(c, subject) : 0;
            }
        }

        private static boolean compares(int amount, int sign, int number) {
            if (sign == '<') {
                return amount < number;
            }
            return sign == '>' ? amount > number : amount == number;
        }
    }
}
