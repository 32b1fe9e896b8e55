import java.lang.reflect.InvocationTargetException;
import java.lang.reflect.Method;
import java.lang.reflect.Modifier;
import java.nio.ByteBuffer;
import java.nio.charset.StandardCharsets;
import java.util.ArrayList;
import java.util.Arrays;
import java.util.Comparator;
import java.util.List;
import java.util.Random;

/** Promises 1 to 42: any calls of the class and of Model, which is the document told in another way, answer the same. */
public final class ModelTest {
    private static final Check CHECK = new Check("ModelTest");
    private static final String[] GIFTS = {"manners", "music", "faith", "letters"};
    private static final String[] NAMES = {"a", "b", "c", "tom", "ann", "bob", "one", "two", "tri", "qua", "ned", "sam", "longest", "in", "x"};
    private static final String[] PIECES = {"floor", "cold", "child", "law", "likes", "rope", "cellar", "send", "hour", "or", "and", "not", "(", ")",
        "<", "=", ">", ";", "0", "5", "61", "999", "1000", "toolongx", "a1", ".", "\t", "A", "zz", "music", "ready", "served", "on", "weight", "\u00e9"};
    private static final int OBJECTS = 250;
    private static final int CALLS = 500;

    private static final List<Method> FACE = face();
    private static final Method FEED = named("feed");
    private static final Method END = named("end");
    private static final Method TOWER = named("tower");

    private final Random random;
    private final DumbwaiterYoung x = new DumbwaiterYoung();
    private final Model model = new Model();
    private final List<String> floors = new ArrayList<>();
    private final List<String> kids = new ArrayList<>();
    private final List<String> uncles = new ArrayList<>();

    private ModelTest(long seed) {
        random = new Random(seed);
    }

    private static List<Method> face() {
        List<Method> methods = new ArrayList<>();
        for (Method m : DumbwaiterYoung.class.getDeclaredMethods()) {
            if (Modifier.isPublic(m.getModifiers())) {
                methods.add(m);
            }
        }
        methods.sort(Comparator.comparing(Method::getName));
        return methods;
    }

    private static Method named(String name) {
        for (Method m : FACE) {
            if (m.getName().equals(name)) {
                return m;
            }
        }
        throw new IllegalStateException("the face has no " + name);
    }

    private static Object ask(Object of, Method method, Object... args) throws ReflectiveOperationException {
        try {
            return method.invoke(of, args);
        } catch (InvocationTargetException e) {
            return e.getCause().getClass().getName();
        }
    }

    private void both(Method m, Object... args) throws ReflectiveOperationException {
        Method told = Model.class.getDeclaredMethod(m.getName(), m.getParameterTypes());
        Object due = ask(model, told, args);
        Object got = ask(x, m, args);
        CHECK.yes(m.getName() + Arrays.toString(args) + " answered " + got + ", by the model " + due, got.equals(due));
    }

    private int any(int usual) {
        return switch (random.nextInt(40)) {
            case 0 -> random.nextInt();
            case 1 -> -1;
            case 2 -> Integer.MIN_VALUE;
            case 3 -> Integer.MAX_VALUE;
            case 4 -> random.nextInt(70);
            default -> random.nextInt(usual + 1);
        };
    }

    private Object[] args(Method m) {
        String name = m.getName();
        int kid = Math.max(0, model.count(1) - 1);
        int[] usual = switch (name) {
            case "hours" -> new int[] {random.nextInt(4) == 0 ? 61 : 5};
            case "drawn" -> new int[] {random.nextInt(4) == 0 ? 61 : 5, 0};
            case "odds" -> new int[] {kid, 6, 0};
            case "byteAt" -> new int[] {50};
            case "end" -> new int[] {60};
            case "book", "image", "restore" -> new int[] {1};
            case "child" -> new int[] {kid, 6};
            case "has" -> new int[] {kid, 4};
            case "send", "holds" -> new int[] {kid, model.count(0)};
            case "floor" -> new int[] {model.count(0), 3};
            case "uncle" -> new int[] {Math.max(0, model.count(2) - 1), 1};
            case "hang", "take" -> new int[] {Math.max(0, model.count(2) - 1)};
            case "serve", "back", "when", "plan", "web", "cover", "hung" -> new int[] {kid};
            case "been", "planAt", "beenAt" -> new int[] {4};
            case "law", "told" -> new int[] {3};
            default -> new int[] {8, 8, 8, 8, 8};
        };
        Object[] args = new Object[m.getParameterCount()];
        for (int i = 0; i < args.length; i++) {
            args[i] = any(usual[i]);
        }
        if (name.equals("said")) {
            args[0] = any(8) - 1;
        } else if (name.equals("drawn") || name.equals("odds")) {
            args[args.length - 1] = random.nextInt();
        }
        return args;
    }

    private String pick(List<String> told) {
        return told.isEmpty() || random.nextInt(500) == 0 ? NAMES[random.nextInt(NAMES.length)] : told.get(random.nextInt(told.size()));
    }

    private int number(int most) {
        return random.nextInt(800) == 0 ? random.nextInt(1100) : 1 + random.nextInt(most);
    }

    private String gift() {
        return GIFTS[random.nextInt(4)];
    }

    private String newName(List<String> told) {
        for (int i = 0; i < 100; i++) {
            String name = NAMES[random.nextInt(NAMES.length)] + (random.nextBoolean() ? "" : "z");
            if (name.length() <= 7 && !floors.contains(name) && !kids.contains(name) && !uncles.contains(name)) {
                told.add(name);
                return name;
            }
        }
        return "x";
    }

    private String tower() {
        floors.clear();
        kids.clear();
        uncles.clear();
        StringBuilder text = new StringBuilder();
        int many = random.nextInt(40) == 0 ? 9 : random.nextInt(8) == 0 ? 0 : 1 + random.nextInt(8);
        for (int i = 0; i < many; i++) {
            text.append("floor ").append(newName(floors)).append(' ').append(gift()).append(' ').append(number(9)).append(random.nextInt(3) == 0 ? " cold;" : ";");
        }
        many = random.nextInt(40) == 0 ? 7 : 1 + random.nextInt(6);
        for (int i = 0; i < many; i++) {
            text.append("child ").append(newName(kids)).append(' ').append(number(20)).append(";\n");
        }
        many = random.nextInt(40) == 0 ? 6 : random.nextInt(6);
        for (int i = 0; i < many; i++) {
            text.append("uncle ").append(newName(uncles)).append(' ').append(number(20)).append(" ; ");
        }
        for (String gift : GIFTS) {
            if (random.nextInt(5) < 2) {
                text.append("law ").append(gift).append(' ').append(number(random.nextInt(3) == 0 ? 60 : 9)).append(';');
            }
        }
        for (int i = 0; i < 12 && !floors.isEmpty(); i++) {
            String line = "likes " + pick(floors) + " " + pick(kids) + " ";
            if (!text.toString().contains(line) || random.nextInt(200) == 0) {
                text.append(line).append(number(9)).append(';');
            }
        }
        if (random.nextInt(3) != 0) {
            text.append("rope ").append(10 + random.nextInt(random.nextInt(3) == 0 ? 495 : 90)).append(";grow ").append(1 + random.nextInt(12)).append(';');
        }
        return text.toString();
    }

    private String book() {
        StringBuilder text = new StringBuilder();
        int lines = random.nextInt(20) == 0 ? 43 : random.nextInt(9);
        for (int i = 0; i < lines; i++) {
            String kid = pick(kids);
            text.append(switch (random.nextInt(lines > 40 ? 2 : 8)) {
                case 0, 1 -> "hour " + number(random.nextInt(9) == 0 ? 61 : 6);
                case 2 -> "hang " + pick(uncles);
                case 3 -> "take " + pick(uncles);
                case 4 -> "serve " + kid;
                case 5 -> "back " + kid;
                default -> "send " + kid + " " + (random.nextInt(4) == 0 ? "cellar" : pick(floors));
            }).append(';');
        }
        return text.toString();
    }

    private String one(int deep) {
        String[] subjects = {gift(), "weight", "shy", "fell", "number"};
        return switch (random.nextInt(deep > 10 ? 6 : 9)) {
            case 0 -> "served";
            case 1 -> "ready";
            case 2 -> "talks";
            case 3 -> "on " + (random.nextInt(3) == 0 ? "cellar" : pick(floors));
            case 4 -> "lacks " + gift();
            case 5 -> subjects[random.nextInt(5)] + "<=>".charAt(random.nextInt(3)) + random.nextInt(random.nextBoolean() ? 4 : 30);
            case 6 -> "(" + condition(deep + 1) + ")";
            default -> "not " + one(deep + 1);
        };
    }

    private String condition(int deep) {
        StringBuilder text = new StringBuilder(one(deep));
        int more = random.nextInt(deep == 0 ? 5 : 3);
        for (int i = 0; i < more; i++) {
            text.append(random.nextBoolean() ? " or " : " and ").append(one(deep));
        }
        return text.toString();
    }

    /** Now and then something is left out, put in, doubled or drawn out by blanks. */
    private String spoil(String text) {
        StringBuilder spoilt = new StringBuilder(text);
        int times = random.nextInt(3) == 0 ? 1 + random.nextInt(2) : 0;
        for (int i = 0; i < times; i++) {
            int at = random.nextInt(spoilt.length() + 1);
            switch (random.nextInt(5)) {
                case 0 -> spoilt.insert(at, PIECES[random.nextInt(PIECES.length)]);
                case 1 -> spoilt.insert(at, " " + PIECES[random.nextInt(PIECES.length)] + " ");
                case 2 -> spoilt.delete(at, Math.min(spoilt.length(), at + 1 + random.nextInt(6)));
                case 3 -> spoilt.insert(at, (random.nextBoolean() ? " " : "\n").repeat(random.nextInt(900)));
                default -> spoilt.setLength(at);
            }
        }
        spoilt.setLength(Math.min(spoilt.length(), 940));
        return spoilt.toString();
    }

    private void tape(String text) throws ReflectiveOperationException {
        both(END, 0);
        byte[] bytes = Arrays.copyOf(text.getBytes(StandardCharsets.ISO_8859_1), (text.length() + 19) / 20 * 20);
        ByteBuffer buffer = ByteBuffer.wrap(bytes);
        while (buffer.hasRemaining()) {
            both(FEED, buffer.getInt(), buffer.getInt(), buffer.getInt(), buffer.getInt(), buffer.getInt());
        }
        both(END, text.length());
    }

    /** Puts on the tape what the call is to read. */
    private void prepare(String name) throws ReflectiveOperationException {
        switch (name) {
            case "tower" -> tape(spoil(tower()));
            case "book" -> tape(spoil(book()));
            case "sentence" -> tape(spoil(condition(0)));
            case "been" -> tape(amounts());
            default -> {
            }
        }
    }

    /** What a CHILD would have by some row, or nearly. */
    private String amounts() {
        char[] has = new char[4];
        for (int h = 0; h < 1 + random.nextInt(4); h++) {
            int f = random.nextInt(model.count(0) + 1);
            if (f > 0) {
                has[model.floor(f, 0)] += (char) model.floor(f, 1);
            }
        }
        has[random.nextInt(4)] += (char) (random.nextInt(4) == 0 ? 1 : 0);
        return new String(has);
    }

    private void run() throws ReflectiveOperationException {
        for (int i = 0; i < 20 && model.count(1) == 0; i++) {
            tape(tower());
            both(TOWER);
        }
        for (int i = 0; i < CALLS; i++) {
            Method m = FACE.get(random.nextInt(FACE.size()));
            boolean rare = m.equals(TOWER) || m.getName().equals("restore") || m.getName().equals("bargain");
            if (!rare || random.nextInt(4) == 0) {
                if (random.nextInt(20) != 0) {
                    prepare(m.getName());
                }
                both(m, args(m));
            }
        }
    }

    public static void main(String[] args) throws ReflectiveOperationException {
        int objects = args.length > 0 ? Integer.parseInt(args[0]) : OBJECTS;
        CHECK.due("methods of the face", FACE.size(), 41);
        for (int seed = 0; seed < objects; seed++) {
            new ModelTest(seed).run();
        }
        CHECK.finish();
    }
}
