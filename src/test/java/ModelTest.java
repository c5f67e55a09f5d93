import java.lang.reflect.InvocationTargetException;
import java.lang.reflect.Method;
import java.lang.reflect.Modifier;
import java.util.ArrayList;
import java.util.Arrays;
import java.util.Comparator;
import java.util.List;
import java.util.Random;

/** Runs of 512 drawn calls, each answer compared with Model's. The draws are the same each time. */
public final class ModelTest {
    private static final int RUNS = 120;
    private static final int CALLS = 512;
    /** Four bytes a call, and no drawn text has more than 308 bytes; then wipe() and text(). */
    private static final int CALLS_OF_A_TEXT = 79;
    /** Calls that look ahead cost the plain model much, so most draws go to others. */
    private static final List<String> DEAR = List.of("stands", "road", "both", "empty", "fromFor", "away", "kindFor",
        "wideFor", "eachFor", "windFor", "fits", "kinds", "built", "high");

    private final Random random;
    private final Method[] calls;

    private ModelTest(long seed) {
        random = new Random(seed);
        List<Method> open = new ArrayList<>();
        for (Method m : SandLedger.class.getDeclaredMethods()) {
            if (Modifier.isPublic(m.getModifiers())) {
                open.add(m);
            }
        }
        open.sort(Comparator.comparing(Method::getName));
        calls = open.toArray(new Method[0]);
    }

    public static void main(String[] args) throws IllegalAccessException, InvocationTargetException {
        int runs = args.length > 0 ? Integer.parseInt(args[0]) : RUNS;
        for (int seed = 0; seed < runs; seed++) {
            new ModelTest(seed).run(seed);
        }
        Check.end("ModelTest");
    }

    private void run(int seed) throws IllegalAccessException, InvocationTargetException {
        SandLedger x = new SandLedger();
        Model model = new Model();
        int made = 0;
        while (made < CALLS) {
            if (random.nextInt(40) == 0 && made + CALLS_OF_A_TEXT <= CALLS) {
                made += feedDrawnText(x, model, seed);
                continue;
            }
            Method call = calls[random.nextInt(calls.length)];
            if (DEAR.contains(call.getName()) && random.nextInt(3) != 0 || call.getName().equals("wipe") && random.nextInt(4) != 0) {
                continue;
            }
            int[] arguments = draw(call.getName(), call.getParameterCount());
            made++;
            if (!agree(x, model, call, arguments, seed)) {
                return;
            }
        }
    }

    private boolean agree(SandLedger x, Model model, Method call, int[] arguments, int seed)
            throws IllegalAccessException, InvocationTargetException {
        Object[] boxed = Arrays.stream(arguments).boxed().toArray();
        long got = ((Number) call.invoke(x, boxed)).longValue();
        long due = model.call(call.getName(), arguments);
        Check.due("run " + seed + ": " + call.getName() + Arrays.toString(arguments), got, due);
        return got == due;
    }

    private int wild(int least, int most) {
        int chance = random.nextInt(30);
        if (chance == 0) {
            return least - 1;
        }
        if (chance == 1) {
            return most + 1;
        }
        if (chance == 2 && random.nextInt(4) == 0) {
            return random.nextInt();
        }
        if (chance == 3) {
            return least;
        }
        return chance == 4 ? most : least + random.nextInt(most - least + 1);
    }

    private int small() {
        return random.nextInt(3) == 0 ? wild(0, 100) : wild(0, 12);
    }

    /** Arguments that are mostly such as the document lets stand. */
    private int[] draw(String name, int count) {
        switch (name) {
            case "sand": return new int[] {wild(0, 15), random.nextBoolean() ? wild(0, 30) : wild(0, 8)};
            case "cell": return new int[] {wild(0, 15), wild(0, 1)};
            case "set": return drawSetting();
            case "visitor": return new int[] {wild(0, 6), wild(0, 15)};
            case "of": return new int[] {wild(0, 7), wild(0, 10)};
            case "change": return drawChange();
            case "go": return new int[] {random.nextInt(4) == 0 ? wild(1, 60) : wild(1, 5)};
            case "high": return new int[] {wild(0, 15), small()};
            case "built": return new int[] {wild(0, 7), small()};
            case "road": return new int[] {wild(0, 16)};
            case "both": return new int[] {wild(0, 7), wild(0, 7)};
            case "fromFor": case "eachFor": case "kindFor": case "windFor":
                return new int[] {wild(0, 4), random.nextBoolean() ? wild(0, 40) : wild(0, 5)};
            case "wideFor": return new int[] {wild(0, 4), random.nextInt(5) == 0 ? wild(0, 9999) : wild(0, 30), wild(0, 40)};
            case "away": return new int[] {wild(0, 4), wild(0, 12)};
            case "fits": case "kinds": return new int[] {wild(0, 3), wild(0, 4), random.nextBoolean() ? wild(0, 20) : wild(0, 2)};
            case "comings": return new int[] {wild(1, 20)};
            case "odds": return new int[] {wild(0, 15), wild(0, 1)};
            case "seed": return new int[] {random.nextInt()};
            case "feed": return new int[] {random.nextInt(), wild(1, 4)};
            case "hold": return new int[] {wild(0, 9), wild(-1, 7)};
            case "as": return new int[] {wild(0, 9), wild(0, 6)};
            case "sheet": return new int[] {wild(0, 3), new int[] {8, 8, 16, 32, 0, 7}[random.nextInt(6)], wild(0, 40)};
            case "write": return new int[] {wild(0, 3), random.nextBoolean() ? wild(0, 3) : wild(0, 39), drawNumber()};
            case "copy": return new int[] {wild(0, 3), wild(0, 20), wild(0, 3), wild(0, 20), wild(0, 10)};
            case "status": return new int[] {wild(-1, 6)};
            default: return drawPlain(count);
        }
    }

    private int[] drawPlain(int count) {
        int[] arguments = new int[count];
        for (int i = 0; i < count; i++) {
            arguments[i] = wild(0, 7);
        }
        return arguments;
    }

    private int[] drawSetting() {
        int what = wild(0, 2);
        if (what == 0) {
            return new int[] {what, random.nextInt(4) == 0 ? wild(0, 9999) : wild(0, 60)};
        }
        return new int[] {what, wild(0, what == 1 ? 5 : 9)};
    }

    private int[] drawChange() {
        int[] least = {0, 0, 1, 0, 1, 0, 0};
        int[] most = {6, 15, 8, 20, 9, random.nextBoolean() ? 9999 : 200, random.nextBoolean() ? 9999 : 3};
        int what = wild(0, 6);
        int in = Math.floorMod(what, 7);
        return new int[] {wild(0, 7), what, wild(least[in], most[in])};
    }

    private int drawNumber() {
        int chance = random.nextInt(8);
        return chance == 0 ? random.nextInt() : chance < 4 ? -1 : chance == 4 ? wild(0, 31) : 5 + random.nextInt(2) * 3;
    }

    private String drawText() {
        String[] words = {"visitor", "child", "lover", "boy", "digger", "traveller", "bride"};
        StringBuilder text = new StringBuilder();
        int items = 1 + random.nextInt(4);
        for (int i = 0; i < items; i++) {
            text.append(i == 0 ? "" : ";");
            switch (random.nextInt(6)) {
                case 0: text.append("sand ").append(wild(0, 15)).append(' ').append(wild(0, 30)); break;
                case 1: text.append("store ").append(wild(0, 9999)); break;
                case 2: text.append("wind ").append(wild(0, 5)); break;
                case 3: text.append(" wet").append(wild(0, 9)); break;
                default:
                    text.append(words[random.nextInt(7)]);
                    text.append(random.nextBoolean() ? " from " + wild(0, 15) : "");
                    text.append(random.nextBoolean() ? " wide " + wild(1, 8) : "");
                    text.append(random.nextBoolean() ? " high " + wild(0, 20) : "  ");
                    text.append(random.nextBoolean() ? " each " + wild(1, 9) : "");
                    break;
            }
        }
        if (random.nextInt(4) == 0) {
            text.setCharAt(random.nextInt(text.length()), (char) random.nextInt(256));
        }
        if (random.nextInt(6) == 0) {
            text.setLength(random.nextInt(text.length()));
        }
        return text.toString();
    }

    private int feedDrawnText(SandLedger x, Model model, int seed) {
        String text = drawText();
        int made = 0;
        if (random.nextInt(8) != 0) {
            Check.due("run " + seed + ": wipe", x.wipe(), model.call("wipe", new int[0]));
            made++;
        }
        for (int i = 0; i < text.length(); i += 4) {
            int bytes = 0;
            int n = Math.min(4, text.length() - i);
            for (int j = 0; j < n; j++) {
                bytes = bytes << 8 | text.charAt(i + j);
            }
            Check.due("run " + seed + ": feed", x.feed(bytes, n), model.call("feed", new int[] {bytes, n}));
            made++;
        }
        Check.due("run " + seed + ": text of " + text, x.text(), model.call("text", new int[0]));
        return made + 1;
    }
}
