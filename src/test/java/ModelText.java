import java.util.ArrayList;
import java.util.HashMap;
import java.util.List;
import java.util.Map;
import java.util.regex.Matcher;
import java.util.regex.Pattern;

/** The texts of the document, read for Model: a FAULT is thrown where it stands. */
final class ModelText {
    static final List<String> GIFTS = List.of("manners", "music", "faith", "letters");
    private static final List<String> OWN = List.of(("floor cold child uncle law likes rope grow manners music faith letters "
        + "send cellar hang take serve back hour or and not served ready talks on lacks weight shy fell number").split(" "));
    private static final Pattern PIECE = Pattern.compile("[ \n]+|[a-z0-9]+|.", Pattern.DOTALL);

    private final List<String> tokens = new ArrayList<>();
    private final List<Integer> places = new ArrayList<>();
    private int at = 0;
    private int ones = 0;
    private final House house;

    static final class Fault extends RuntimeException {
        private static final long serialVersionUID = 1;
        final int kind;
        final int place;

        Fault(int kind, int place) {
            this.kind = kind;
            this.place = place;
        }
    }

    /** What a TOWER's text tells; of each FLOOR its GIFT, how much, cold. */
    static final class House {
        final List<String> floors = new ArrayList<>();
        final List<int[]> floorTold = new ArrayList<>();
        final List<String> kids = new ArrayList<>();
        final List<Integer> kidWeights = new ArrayList<>();
        final List<String> uncles = new ArrayList<>();
        final List<Integer> uncleWeights = new ArrayList<>();
        final int[] laws = new int[4];
        final Map<String, Integer> likes = new HashMap<>();
        int rope = 100;
        int grow = 6;
        int lines = 0;
    }

    record Line(String word, int who, int to) {
    }

    /** Something that is so of a CHILD or not. */
    interface Test {
        boolean of(Model m, Model.World w, int c);
    }

    record Said(int ones, Test test) {
    }

    private ModelText(String text, int most, House house) {
        this.house = house;
        Matcher piece = PIECE.matcher(text);
        while (piece.find() && piece.start() < most) {
            if (!piece.group().isBlank() || piece.group().matches("[^ \n]")) {
                tokens.add(piece.group());
                places.add(piece.start());
            }
        }
        // What is too long has a FAULT where it ends to be told, whatever might come there.
        tokens.add(text.length() > most ? "too long" : "the end");
        places.add(Math.min(text.length(), most));
    }

    private String token() {
        return tokens.get(at);
    }

    private boolean is(String word) {
        return token().equals(word);
    }

    private Fault fault(int kind) {
        return new Fault(kind, places.get(at));
    }

    /** Goes behind a TOKEN that must match; what does not can't come. */
    private String take(String pattern) {
        if (!token().matches(pattern)) {
            throw fault(1);
        }
        at++;
        return tokens.get(at - 1);
    }

    private int number(int least, int most) {
        int n = Integer.parseInt(take("[0-9]{1,3}"));
        if (n < least || n > most) {
            at--;
            throw fault(2);
        }
        return n;
    }

    private int gift() {
        return GIFTS.indexOf(take("manners|music|faith|letters"));
    }

    /** A NAME, which must stand in the list, or in none of them, if none is told. */
    private int name(List<String> wanted) {
        if (!token().matches("[a-z]{1,7}") || OWN.contains(token())) {
            throw fault(1);
        }
        boolean told = house.floors.contains(token()) || house.kids.contains(token()) || house.uncles.contains(token());
        int which = wanted == null ? 0 : wanted.indexOf(token());
        if (wanted == null && told || which < 0) {
            throw fault(3);
        }
        at++;
        return which;
    }

    private void once(boolean again, int kind) {
        if (again) {
            throw fault(kind);
        }
    }

    static House house(String text) {
        House h = new House();
        ModelText t = new ModelText(text, 900, h);
        boolean rope = false;
        boolean grow = false;
        while (!t.is("the end")) {
            switch (t.token()) {
                case "floor" -> t.floorLine();
                case "child" -> t.personLine(h.kids, h.kidWeights, 6);
                case "uncle" -> t.personLine(h.uncles, h.uncleWeights, 5);
                case "law" -> t.lawLine();
                case "likes" -> t.likesLine();
                case "rope" -> {
                    t.once(rope, 3);
                    rope = true;
                    t.at++;
                    h.rope = t.number(10, 500);
                }
                case "grow" -> {
                    t.once(grow, 3);
                    grow = true;
                    t.at++;
                    h.grow = t.number(1, 48);
                }
                default -> throw t.fault(1);
            }
            t.take(";");
            h.lines++;
        }
        return h;
    }

    private void floorLine() {
        once(house.floors.size() == 8, 4);
        at++;
        name(null);
        String name = tokens.get(at - 1);
        int gift = gift();
        int gives = number(1, 9);
        int cold = is("cold") ? 1 : 0;
        at += cold;
        house.floors.add(name);
        house.floorTold.add(new int[] {gift, gives, cold});
    }

    private void personLine(List<String> names, List<Integer> weights, int most) {
        once(names.size() == most, 4);
        at++;
        name(null);
        String name = tokens.get(at - 1);
        weights.add(number(1, 20));
        names.add(name);
    }

    private void lawLine() {
        at++;
        int gift = gift();
        if (house.laws[gift] > 0) {
            at--;
            throw fault(3);
        }
        house.laws[gift] = number(1, 60);
    }

    private void likesLine() {
        at++;
        int floor = name(house.floors) + 1;
        int kid = name(house.kids);
        String two = floor + " " + kid;
        if (house.likes.containsKey(two)) {
            at--;
            throw fault(3);
        }
        house.likes.put(two, number(1, 9));
    }

    private int floorOrCellar() {
        if (is("cellar")) {
            at++;
            return 0;
        }
        return name(house.floors) + 1;
    }

    static List<Line> book(String text, House house) {
        ModelText t = new ModelText(text, 400, house);
        List<Line> lines = new ArrayList<>();
        while (!t.is("the end")) {
            String word = t.take("send|hang|take|serve|back|hour");
            t.at--;
            t.once(lines.size() == 40, 4);
            t.at++;
            int who = switch (word) {
                case "hour" -> t.number(1, 60);
                case "hang", "take" -> t.name(house.uncles);
                default -> t.name(house.kids);
            };
            int to = word.equals("send") ? t.floorOrCellar() : 0;
            t.take(";");
            lines.add(new Line(word, who, to));
        }
        return lines;
    }

    static Said sentence(String text, House house) {
        ModelText t = new ModelText(text, 200, house);
        Test test = t.condition(0);
        t.take("the end");
        return new Said(t.ones, test);
    }

    private Test condition(int around) {
        Test first = all(around);
        if (!is("or")) {
            return first;
        }
        at++;
        // 'or' may be read from the right as well: the answer is the same.
        Test rest = condition(around);
        return (m, w, c) -> first.of(m, w, c) || rest.of(m, w, c);
    }

    private Test all(int around) {
        Test first = one(around);
        if (!is("and")) {
            return first;
        }
        at++;
        Test rest = all(around);
        return (m, w, c) -> first.of(m, w, c) && rest.of(m, w, c);
    }

    private Test one(int around) {
        String word = take("not|[(]|served|ready|talks|on|lacks|manners|music|faith|letters|weight|shy|fell|number");
        at--;
        once(ones == 20 || around == 8, 4);
        ones++;
        at++;
        switch (word) {
            case "not":
                Test other = one(around + 1);
                return (m, w, c) -> !other.of(m, w, c);
            case "(":
                Test inner = condition(around + 1);
                take("[)]");
                return inner;
            case "served":
                return (m, w, c) -> w.kids[c].place == -1;
            case "ready":
                return (m, w, c) -> m.lacks(w, c) == 0;
            case "talks":
                return (m, w, c) -> m.neighbours(w, c) != 0;
            case "on":
                int place = floorOrCellar();
                return (m, w, c) -> w.kids[c].place == place;
            case "lacks":
                int gift = gift();
                return (m, w, c) -> (m.lacks(w, c) >> gift & 1) == 1;
            default:
                String sign = take("[<=>]");
                int number = number(0, 999);
                return (m, w, c) -> Integer.compare(amount(word, w.kids[c], c), number) == "<=>".indexOf(sign) - 1;
        }
    }

    private static int amount(String word, Model.Kid k, int c) {
        return switch (word) {
            case "weight" -> k.weight;
            case "shy" -> k.shy;
            case "fell" -> k.fell;
            case "number" -> c;
            default -> k.has[GIFTS.indexOf(word)];
        };
    }
}
