import java.nio.charset.StandardCharsets;
import java.util.ArrayDeque;
import java.util.ArrayList;
import java.util.Arrays;
import java.util.Deque;
import java.util.HashMap;
import java.util.List;
import java.util.Map;
import java.util.NoSuchElementException;
import java.util.TreeSet;

/**
 * The document told once more, as plainly as the Java library lets one, and by other ways than those of the class: it
 * tries all there is instead of reckoning. ModelTest makes the same calls of both.
 */
final class Model {
    private static final int NONE = -1;

    private String tape = "";
    private int fault = 0;
    private ModelText.House house = new ModelText.House();
    private World now = new World(0);
    private ModelText.Said sentence = null;
    private final Deque<World> past = new ArrayDeque<>();
    private final Image[] images = new Image[2];
    private List<Integer> planned = null;
    private int plannedPasses = NONE;
    private List<int[]> been = null;
    private int hanging = NONE;
    private int[] bargained = {};
    private String cover = "";
    private int[] told = null;

    private record Image(ModelText.House house, World world, ModelText.Said sentence) {
    }

    /** One CHILD, as it is now. */
    static final class Kid {
        int place = 0;
        int weight = 0;
        int age = 0;
        int shy = 0;
        int fell = 0;
        int[] has = new int[4];

        Kid copy() {
            Kid k = new Kid();
            k.place = place;
            k.weight = weight;
            k.age = age;
            k.shy = shy;
            k.fell = fell;
            k.has = has.clone();
            return k;
        }
    }

    /** All that is so. */
    static final class World {
        final Kid[] kids;
        TreeSet<Integer> hang = new TreeSet<>();
        int wear = 0;
        int ran = 0;
        int passed = 0;
        int hour = 0;

        World(int kids) {
            this.kids = new Kid[kids];
        }

        World copy() {
            World w = new World(kids.length);
            for (int c = 0; c < kids.length; c++) {
                w.kids[c] = kids[c].copy();
            }
            w.hang = new TreeSet<>(hang);
            w.wear = wear;
            w.ran = ran;
            w.passed = passed;
            w.hour = hour;
            return w;
        }
    }

    // ---- the tape ----

    int feed(int a, int b, int c, int d, int e) {
        if (tape.length() + 20 > 940) {
            return NONE;
        }
        byte[] bytes = new byte[20];
        java.nio.ByteBuffer.wrap(bytes).putInt(a).putInt(b).putInt(c).putInt(d).putInt(e);
        tape += new String(bytes, StandardCharsets.ISO_8859_1);
        return tape.length();
    }

    boolean end(int n) {
        if (n < 0 || n > tape.length()) {
            return false;
        }
        tape = tape.substring(0, n);
        return true;
    }

    private String takeTape() {
        String text = tape;
        tape = "";
        return text;
    }

    int tower() {
        try {
            ModelText.House read = ModelText.house(takeTape());
            fault = 0;
            house = read;
            now = new World(read.kids.size());
            for (int c = 0; c < now.kids.length; c++) {
                now.kids[c] = new Kid();
                now.kids[c].weight = read.kidWeights.get(c);
            }
            sentence = null;
            past.clear();
            return read.lines;
        } catch (ModelText.Fault f) {
            fault = f.kind;
            return -1 - f.place;
        }
    }

    int fault() {
        return fault;
    }

    // ---- what is so ----

    private boolean isKid(int c) {
        return c >= 0 && c < now.kids.length;
    }

    private boolean isFloor(int f) {
        return f >= 1 && f <= house.floors.size();
    }

    private boolean isUncle(int u) {
        return u >= 0 && u < house.uncles.size();
    }

    int lacks(World w, int c) {
        int bits = 0;
        for (int g = 0; g < 4; g++) {
            bits += w.kids[c].has[g] < house.laws[g] ? 1 << g : 0;
        }
        return bits;
    }

    private static boolean neighbours(World w, int a, int b) {
        int low = Math.min(w.kids[a].place, w.kids[b].place);
        return low >= 1 && low + 1 == Math.max(w.kids[a].place, w.kids[b].place);
    }

    int neighbours(World w, int c) {
        int bits = 0;
        for (int b = 0; b < w.kids.length; b++) {
            bits += neighbours(w, c, b) ? 1 << b : 0;
        }
        return bits;
    }

    private int balance(World w) {
        int sum = 0;
        for (int u : w.hang) {
            sum += house.uncleWeights.get(u);
        }
        return sum;
    }

    int child(int c, int what) {
        if (!isKid(c) || what < 0 || what > 6) {
            throw new NoSuchElementException();
        }
        Kid k = now.kids[c];
        int[] all = {k.place, k.weight, k.age, k.shy, k.fell, lacks(now, c), neighbours(now, c)};
        return all[what];
    }

    int has(int c, int g) {
        return isKid(c) && g >= 0 && g <= 3 ? now.kids[c].has[g] : NONE;
    }

    int floor(int f, int what) {
        if (!isFloor(f) || what < 0 || what > 3) {
            return NONE;
        }
        int on = NONE;
        for (int c = 0; c < now.kids.length; c++) {
            on = now.kids[c].place == f ? c : on;
        }
        int[] told = house.floorTold.get(f - 1);
        return what == 3 ? on : told[what];
    }

    int uncle(int u, int what) {
        if (!isUncle(u) || what < 0 || what > 1) {
            return NONE;
        }
        return what == 0 ? house.uncleWeights.get(u) : now.hang.contains(u) ? 1 : 0;
    }

    int law(int g) {
        return g >= 0 && g <= 3 ? house.laws[g] : NONE;
    }

    int now(int what) {
        int served = 0;
        int ready = 0;
        int up = 0;
        for (int c = 0; c < now.kids.length; c++) {
            int place = now.kids[c].place;
            served += place == NONE ? 1 << c : 0;
            ready += place != NONE && lacks(now, c) == 0 ? 1 << c : 0;
            up += place > 0 ? 1 << c : 0;
        }
        int[] all = {now.hour, now.wear, now.ran, balance(now), served, ready, up, now.passed};
        return what >= 0 && what <= 7 ? all[what] : NONE;
    }

    // ---- deeds: each says why not, and does it if there is no reason ----

    private int doSend(World w, int c, int to) {
        Kid k = w.kids[c];
        if (k.place == NONE) {
            return 1;
        }
        if (k.place == to) {
            return 2;
        }
        for (Kid other : w.kids) {
            if (to != 0 && other.place == to) {
                return 3;
            }
        }
        for (int at = k.place; at != to; at += at < to ? 1 : -1) {
            w.passed++;
            w.wear += Math.abs(k.weight - balance(w));
        }
        k.place = to;
        if (w.wear >= house.rope) {
            k.place = 0;
            k.fell++;
            k.weight = Math.min(60, k.weight + 2);
            w.ran++;
            w.wear = 0;
        }
        return 0;
    }

    private int doServe(World w, int c) {
        if (w.kids[c].place == NONE) {
            return 1;
        }
        if (lacks(w, c) != 0) {
            return 2;
        }
        w.kids[c].place = NONE;
        return 0;
    }

    private static int doBack(World w, int c) {
        if (w.kids[c].place != NONE) {
            return 1;
        }
        w.kids[c].place = 0;
        w.kids[c].has = new int[4];
        w.kids[c].shy = 0;
        return 0;
    }

    /** One HOUR, if there is one: whether it went. */
    private boolean doHour(World w) {
        if (w.hour == 400) {
            return false;
        }
        for (Kid k : w.kids) {
            if (k.place > 0) {
                int[] told = house.floorTold.get(k.place - 1);
                k.has[told[0]] = Math.min(99, k.has[told[0]] + told[1]);
                k.shy = Math.min(99, k.shy + told[2]);
            }
        }
        for (int a = 0; a < w.kids.length; a++) {
            for (int b = a + 1; b < w.kids.length; b++) {
                if (neighbours(w, a, b)) {
                    doTalk(w.kids[a].has, w.kids[b].has);
                }
            }
        }
        for (Kid k : w.kids) {
            if (k.place != NONE) {
                k.age++;
                k.weight = Math.min(60, k.weight + (k.age % house.grow == 0 ? 1 : 0));
            }
        }
        w.hour++;
        return true;
    }

    private static void doTalk(int[] a, int[] b) {
        int g = 0;
        while (g < 4 && Math.abs(a[g] - b[g]) < 2) {
            g++;
        }
        if (g < 4) {
            int[] less = a[g] < b[g] ? a : b;
            less[g]++;
        }
    }

    private int keep(World before, int why) {
        if (why == 0) {
            past.addLast(before);
            if (past.size() > 8) {
                past.removeFirst();
            }
        }
        return why;
    }

    int send(int c, int f) {
        World before = now.copy();
        return isKid(c) && (f == 0 || isFloor(f)) ? keep(before, doSend(now, c, f)) : NONE;
    }

    int hang(int u) {
        World before = now.copy();
        return isUncle(u) ? keep(before, now.hang.add(u) ? 0 : 1) : NONE;
    }

    int take(int u) {
        World before = now.copy();
        return isUncle(u) ? keep(before, now.hang.remove(u) ? 0 : 1) : NONE;
    }

    int serve(int c) {
        World before = now.copy();
        return isKid(c) ? keep(before, doServe(now, c)) : NONE;
    }

    int back(int c) {
        World before = now.copy();
        return isKid(c) ? keep(before, doBack(now, c)) : NONE;
    }

    int hours(int n) {
        if (n < 1 || n > 60) {
            return NONE;
        }
        World before = now.copy();
        int went = 0;
        while (went < n && doHour(now)) {
            went++;
        }
        keep(before, went > 0 ? 0 : 1);
        return went;
    }

    int undo() {
        if (past.isEmpty()) {
            return NONE;
        }
        now = past.removeLast();
        return past.size();
    }

    // ---- questions ----

    int when(int c) {
        if (!isKid(c) || now.kids[c].place == NONE) {
            return NONE;
        }
        World w = now.copy();
        int went = 0;
        while (lacks(w, c) != 0) {
            if (went == 200 || !doHour(w)) {
                return NONE;
            }
            went++;
        }
        return went;
    }

    int plan(int c) {
        if (!isKid(c) || now.kids[c].place == NONE) {
            return NONE;
        }
        int hours = 0;
        List<Integer> wanted = new ArrayList<>();
        for (int g = 0; g < 4; g++) {
            int most = 0;
            int best = 0;
            for (int f = house.floors.size(); f >= 1; f--) {
                int[] told = house.floorTold.get(f - 1);
                if (told[0] == g && told[1] >= most) {
                    most = told[1];
                    best = f;
                }
            }
            int had = now.kids[c].has[g];
            if (had < house.laws[g]) {
                if (best == 0) {
                    return NONE;
                }
                wanted.add(best);
                for (; had < house.laws[g]; had += most) {
                    hours++;
                }
            }
        }
        int from = now.kids[c].place;
        planned = shortest(from, wanted);
        plannedPasses = way(from, planned);
        return hours;
    }

    private static int way(int from, List<Integer> order) {
        int passed = 0;
        int at = from;
        for (int f : order) {
            passed += Math.abs(f - at);
            at = f;
        }
        return passed;
    }

    /** Of all orders the shortest, of like ones the least; each order is a number in base nine, so that the least is seen. */
    private static List<Integer> shortest(int from, List<Integer> wanted) {
        List<Integer> best = null;
        for (int code = 0; code < Math.pow(9, wanted.size()); code++) {
            List<Integer> order = new ArrayList<>();
            for (int rest = code, i = 0; i < wanted.size(); i++, rest /= 9) {
                order.add(0, rest % 9);
            }
            boolean fits = order.stream().sorted().toList().equals(wanted.stream().sorted().toList());
            if (fits && (best == null || way(from, order) < way(from, best))) {
                best = order;
            }
        }
        return best;
    }

    int planAt(int k) {
        return planned != null && k >= 0 && k < planned.size() ? planned.get(k) : NONE;
    }

    int passes() {
        return plannedPasses;
    }

    int been(int n) {
        String text = takeTape();
        if (n < 1 || n > 4 || text.length() != 4) {
            return NONE;
        }
        List<int[]> rows = new ArrayList<>();
        int places = house.floors.size() + 1;
        for (int code = 0; code < Math.pow(places, n); code++) {
            int[] row = new int[n];
            int[] has = new int[4];
            for (int rest = code, h = n - 1; h >= 0; h--, rest /= places) {
                row[h] = rest % places;
                if (row[h] > 0) {
                    int[] floor = house.floorTold.get(row[h] - 1);
                    has[floor[0]] = Math.min(99, has[floor[0]] + floor[1]);
                }
            }
            boolean same = true;
            for (int g = 0; g < 4; g++) {
                same &= has[g] == text.charAt(g);
            }
            if (same) {
                rows.add(row);
            }
        }
        if (!rows.isEmpty()) {
            been = rows;
        }
        return rows.size();
    }

    int beenAt(int k) {
        return been != null && k >= 0 && k < been.get(0).length ? been.get(0)[k] : NONE;
    }

    int ask() {
        if (been == null) {
            return NONE;
        }
        int best = NONE;
        int least = Integer.MAX_VALUE;
        for (int h = 0; h < been.get(0).length; h++) {
            Map<Integer, Integer> left = new HashMap<>();
            for (int[] row : been) {
                left.merge(row[h], 1, Integer::sum);
            }
            int most = 0;
            for (int many : left.values()) {
                most = Math.max(most, many);
            }
            if (most < least) {
                least = most;
                best = h;
            }
        }
        return best;
    }

    int hung(int c) {
        if (!isKid(c)) {
            return NONE;
        }
        World w = now.copy();
        int best = Integer.MAX_VALUE;
        for (int bits = 0; bits < 1 << house.uncles.size(); bits++) {
            w.hang.clear();
            for (int u = 0; u < house.uncles.size(); u++) {
                if ((bits >> u & 1) == 1) {
                    w.hang.add(u);
                }
            }
            best = Math.min(best, (Math.abs(balance(w) - w.kids[c].weight) * 10 + w.hang.size()) * 100 + bits);
        }
        hanging = best % 100;
        return best / 1000;
    }

    int hanging() {
        return hanging;
    }

    /** Sends it to and fro in a world where nobody else is: the others stand in nobody's way there. */
    int holds(int c, int f) {
        if (!isKid(c) || !isFloor(f) || now.kids[c].place == NONE) {
            return NONE;
        }
        World w = now.copy();
        for (Kid k : w.kids) {
            k.place = 0;
        }
        for (int sent = 1; sent <= 600; sent++) {
            doSend(w, c, sent % 2 == 1 ? f : 0);
            if (w.ran > now.ran) {
                return sent;
            }
        }
        return 0;
    }

    int web(int c) {
        if (!isKid(c)) {
            return NONE;
        }
        int bits = 1 << c;
        int before = 0;
        while (before != bits) {
            before = bits;
            for (int a = 0; a < now.kids.length; a++) {
                bits |= (before >> a & 1) == 1 ? neighbours(now, a) : 0;
            }
        }
        return bits;
    }

    // ---- a bargain: of all pairings that last, the one that each CHILD likes best ----

    /** The greater, the better a CHILD likes a FLOOR; 0 is nobody. */
    private int kidLikes(int c, int f) {
        if (f == 0) {
            return 0;
        }
        int[] told = house.floorTold.get(f - 1);
        int gives = (lacks(now, c) >> told[0] & 1) == 1 ? told[1] : 0;
        return gives * 10 + 9 - f;
    }

    private int floorLikes(int f, int c) {
        if (c == NONE) {
            return 0;
        }
        return house.likes.getOrDefault(f + " " + c, 0) * 10 + 6 - c;
    }

    private boolean lasts(int[] floorOf) {
        int[] kidOf = new int[house.floors.size() + 1];
        Arrays.fill(kidOf, NONE);
        for (int c = 0; c < floorOf.length; c++) {
            kidOf[floorOf[c]] = floorOf[c] == 0 ? NONE : c;
        }
        for (int c = 0; c < floorOf.length; c++) {
            for (int f = 1; f < kidOf.length && now.kids[c].place != NONE; f++) {
                if (kidLikes(c, f) > kidLikes(c, floorOf[c]) && floorLikes(f, c) > floorLikes(f, kidOf[f])) {
                    return false;
                }
            }
        }
        return true;
    }

    private void pairAll(int c, int taken, int[] floorOf, List<int[]> lasting) {
        if (c == floorOf.length) {
            if (lasts(floorOf)) {
                lasting.add(floorOf.clone());
            }
            return;
        }
        for (int f = 0; f <= house.floors.size(); f++) {
            boolean may = f == 0 || (taken >> f & 1) == 0 && now.kids[c].place != NONE;
            if (may) {
                floorOf[c] = f;
                pairAll(c + 1, taken | (f == 0 ? 0 : 1 << f), floorOf, lasting);
            }
        }
        floorOf[c] = 0;
    }

    int bargain() {
        List<int[]> lasting = new ArrayList<>();
        pairAll(0, 0, new int[now.kids.length], lasting);
        int[] best = lasting.get(0);
        for (int[] other : lasting) {
            for (int c = 0; c < best.length; c++) {
                if (kidLikes(c, other[c]) > kidLikes(c, best[c])) {
                    best = other;
                }
            }
        }
        int pairs = 0;
        bargained = best;
        for (int f : best) {
            pairs += f > 0 ? 1 : 0;
        }
        return pairs;
    }

    int bargained(int c) {
        return c >= 0 && c < bargained.length && bargained[c] > 0 ? bargained[c] : NONE;
    }

    // ---- covers, draws ----

    int cover(int c) {
        if (!isKid(c)) {
            return NONE;
        }
        int place = now.kids[c].place;
        cover = house.kids.get(c);
        if (place == NONE) {
            cover += " served";
            return cover.length();
        }
        cover += place == 0 ? " in cellar" : " on " + house.floors.get(place - 1);
        cover += lacks(now, c) == 0 ? " ready" : " lacks";
        for (int g = 0; g < 4; g++) {
            cover += (lacks(now, c) >> g & 1) == 1 ? " " + ModelText.GIFTS.get(g) : "";
        }
        return cover.length();
    }

    int byteAt(int i) {
        return i >= 0 && i < cover.length() ? cover.charAt(i) : NONE;
    }

    private int doDrawn(World w, int n, int seed) {
        int[] x = {seed};
        int went = 0;
        while (went < n && w.hour < 400) {
            for (int c = 0; c < w.kids.length; c++) {
                if (w.kids[c].place != NONE) {
                    int what = draw(x, 4);
                    if (what == 0) {
                        doSend(w, c, draw(x, house.floors.size() + 1));
                    } else if (what == 1) {
                        doServe(w, c);
                    }
                }
            }
            doHour(w);
            went++;
        }
        return went;
    }

    private static int draw(int[] x, int n) {
        x[0] = (int) (x[0] * 1103515245L + 12345L);
        return (int) ((x[0] & 0xffffffffL) / 256 % n);
    }

    int drawn(int n, int seed) {
        if (n < 1 || n > 60) {
            return NONE;
        }
        World before = now.copy();
        int went = doDrawn(now, n, seed);
        keep(before, went > 0 ? 0 : 1);
        return went;
    }

    int odds(int c, int n, int seed) {
        if (!isKid(c) || n < 1 || n > 30) {
            return NONE;
        }
        int served = 0;
        for (int i = 0; i < n; i++) {
            World w = now.copy();
            doDrawn(w, 30, seed + i);
            served += w.kids[c].place == NONE ? 1 : 0;
        }
        return served;
    }

    // ---- books, sentences, images ----

    private int doLine(World w, ModelText.Line line) {
        int a = line.who();
        switch (line.word()) {
            case "send":
                return doSend(w, a, line.to());
            case "hang":
                return w.hang.add(a) ? 0 : 11;
            case "take":
                return w.hang.remove(a) ? 0 : 21;
            case "serve":
                int why = doServe(w, a);
                return why == 0 ? 0 : 30 + why;
            case "back":
                return doBack(w, a) == 0 ? 0 : 41;
            default:
                if (w.hour + a > 400) {
                    return 51;
                }
                for (int i = 0; i < a; i++) {
                    doHour(w);
                }
                return 0;
        }
    }

    int book(int lives) {
        if (lives != 0 && lives != 1) {
            return -1000;
        }
        List<ModelText.Line> lines;
        try {
            lines = ModelText.book(takeTape(), house);
            fault = 0;
        } catch (ModelText.Fault f) {
            fault = f.kind;
            return -2 - f.place;
        }
        World w = now.copy();
        int right = 0;
        int why = 0;
        while (right < lines.size() && why == 0) {
            why = doLine(w, lines.get(right));
            right += why == 0 ? 1 : 0;
        }
        int served = 0;
        for (int c = 0; c < w.kids.length; c++) {
            served += w.kids[c].place == NONE ? 1 << c : 0;
        }
        told = new int[] {why, right, w.hour, served};
        if (lives == 1 && right > 0) {
            keep(now, 0);
            now = w;
        }
        return why == 0 ? NONE : right;
    }

    int told(int what) {
        return told != null && what >= 0 && what <= 3 ? told[what] : NONE;
    }

    int sentence() {
        try {
            sentence = ModelText.sentence(takeTape(), house);
            fault = 0;
            return sentence.ones();
        } catch (ModelText.Fault f) {
            fault = f.kind;
            return -1 - f.place;
        }
    }

    int said(int k) {
        if (sentence == null) {
            return NONE;
        }
        List<Integer> of = new ArrayList<>();
        for (int c = 0; c < now.kids.length; c++) {
            if (sentence.test().of(this, now, c)) {
                of.add(c);
            }
        }
        return k == NONE ? of.size() : k >= 0 && k < of.size() ? of.get(k) : NONE;
    }

    boolean image(int k) {
        if (k != 0 && k != 1) {
            return false;
        }
        images[k] = new Image(house, now.copy(), sentence);
        return true;
    }

    boolean restore(int k) {
        if (k != 0 && k != 1 || images[k] == null) {
            return false;
        }
        house = images[k].house;
        now = images[k].world.copy();
        sentence = images[k].sentence;
        past.clear();
        return true;
    }

    int count(int what) {
        int[] all = {house.floors.size(), house.kids.size(), house.uncles.size(), house.rope, house.grow, tape.length()};
        return what >= 0 && what <= 5 ? all[what] : NONE;
    }
}
