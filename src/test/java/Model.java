import java.math.BigInteger;
import java.util.ArrayList;
import java.util.List;
import java.util.TreeSet;
import java.util.regex.Matcher;
import java.util.regex.Pattern;

/** The document told a second time, as plainly as can be and by other means than the class, to compare it with. */
final class Model {
    static final int BEYOND = 0;
    static final int FULL = 1;
    static final int KIND = 2;
    static final int NONE = 3;
    static final int STATE = 4;
    static final int MISSING = 5;
    static final int SIZE = 6;

    /** Kinds as a tree of classes, each told by the words of the document. */
    private static class Visitor {
        int from;
        int wide = 3;
        int high = 8;
        int each = 2;
        int age;
        int built;

        TreeSet<Integer> span() {
            TreeSet<Integer> cells = new TreeSet<>();
            for (int i = 0; i < wide; i++) {
                cells.add(from + i);
            }
            return cells;
        }

        int raises(World w) {
            return high;
        }

        int moves(World w) {
            return 12;
        }

        boolean spoils(int sand, World w) {
            return sand < raises(w);
        }

        final TreeSet<Integer> cells() {
            TreeSet<Integer> cells = span();
            cells.removeIf(c -> c < 0 || c > 15);
            return cells;
        }
    }

    private static class Child extends Visitor {
        @Override
        int raises(World w) {
            return super.raises(w) + w.wet / 3;
        }

        @Override
        int moves(World w) {
            return super.moves(w) + 8;
        }
    }

    private static class Boy extends Child {
        @Override
        int raises(World w) {
            int all = super.raises(w) + age / 10;
            return all > 30 ? 30 : all;
        }

        @Override
        int moves(World w) {
            return 2 * super.moves(w);
        }
    }

    private static final class Digger extends Boy {
        @Override
        int raises(World w) {
            return 0;
        }

        @Override
        boolean spoils(int sand, World w) {
            return sand > raises(w);
        }
    }

    private static class Lover extends Visitor {
        @Override
        TreeSet<Integer> span() {
            TreeSet<Integer> cells = new TreeSet<>();
            for (int i = 0; i < wide; i++) {
                cells.add(from - i);
            }
            return cells;
        }

        @Override
        int raises(World w) {
            return super.raises(w) / 2;
        }
    }

    private static final class Bride extends Lover {
        @Override
        TreeSet<Integer> span() {
            TreeSet<Integer> cells = super.span();
            cells.add(from + 1);
            return cells;
        }

        @Override
        int raises(World w) {
            return super.raises(w) + 2;
        }

        @Override
        int moves(World w) {
            return super.moves(w) - w.wind;
        }
    }

    private static final class Traveller extends Visitor {
        @Override
        TreeSet<Integer> span() {
            TreeSet<Integer> cells = new TreeSet<>();
            cells.add(from);
            return cells;
        }

        @Override
        int moves(World w) {
            return 1;
        }
    }

    private static final List<Class<? extends Visitor>> KINDS = List.of(
        Visitor.class, Child.class, Lover.class, Boy.class, Digger.class, Traveller.class, Bride.class);

    private static Visitor make(int kind) {
        switch (kind) {
            case 0: return new Visitor();
            case 1: return new Child();
            case 2: return new Lover();
            case 3: return new Boy();
            case 4: return new Digger();
            case 5: return new Traveller();
            case 6: return new Bride();
            default: throw new IllegalArgumentException();
        }
    }

    private static int get(Visitor v, int what) {
        switch (what) {
            case 0: return KINDS.indexOf(v.getClass());
            case 1: return v.from;
            case 2: return v.wide;
            case 3: return v.high;
            case 4: return v.each;
            case 5: return v.age;
            default: return v.built;
        }
    }

    private static Visitor with(Visitor old, int what, int value) {
        Visitor v = make(what == 0 ? value : get(old, 0));
        v.from = what == 1 ? value : old.from;
        v.wide = what == 2 ? value : old.wide;
        v.high = what == 3 ? value : old.high;
        v.each = what == 4 ? value : old.each;
        v.age = what == 5 ? value : old.age;
        v.built = what == 6 ? value : old.built;
        return v;
    }

    /** All that an image keeps. */
    private static final class World {
        int[] sand = {5, 5, 5, 5, 5, 5, 5, 5, 5, 5, 5, 5, 5, 5, 5, 5};
        int store = 100;
        int wind = 1;
        int wet = 2;
        int day = 0;
        int z = 1;
        List<Visitor> visitors = new ArrayList<>();
        Integer[] spots = new Integer[10];

        World twin() {
            World t = new World();
            t.sand = sand.clone();
            t.store = store;
            t.wind = wind;
            t.wet = wet;
            t.day = day;
            t.z = z;
            for (Visitor v : visitors) {
                t.visitors.add(with(v, -1, 0));
            }
            t.spots = spots.clone();
            return t;
        }

        boolean isUp(int i) {
            Visitor v = visitors.get(i);
            return v.cells().stream().noneMatch(c -> v.spoils(sand[c], this));
        }

        /** Grain by grain. */
        int receive(int i) {
            Visitor v = visitors.get(i);
            int moved = 0;
            for (int c : v.cells()) {
                while (v.spoils(sand[c], this) && moved < v.moves(this)) {
                    if (v instanceof Digger) {
                        sand[c]--;
                        store += store < 9999 ? 1 : 0;
                    } else if (store > 0) {
                        sand[c]++;
                        store--;
                    } else {
                        break;
                    }
                    moved++;
                }
            }
            if (isUp(i) && v.built < 9999) {
                v.built++;
            }
            return moved;
        }

        void day(int absent) {
            for (int i = 0; i < visitors.size(); i++) {
                if ((absent & 1 << i) == 0 && day % visitors.get(i).each == 0) {
                    receive(i);
                }
            }
            for (Visitor v : visitors) {
                v.age = Math.min(9999, v.age + 1);
            }
            for (int times = 0; times < wind; times++) {
                slideTo(1);
                slideTo(-1);
            }
            day = Math.min(99999, day + 1);
        }

        void slideTo(int side) {
            int[] was = sand.clone();
            for (int c = 0; c < 16; c++) {
                int next = c + side;
                if (next >= 0 && next < 16 && was[c] > was[next] + wet + 2) {
                    sand[c]--;
                    sand[next]++;
                }
            }
            for (int c = 0; c < 16; c++) {
                if (sand[c] > 30) {
                    store = Math.min(9999, store + sand[c] - 30);
                    sand[c] = 30;
                }
            }
        }

        World days(int n, int absent) {
            World w = twin();
            for (int i = 0; i < n; i++) {
                w.day(absent);
            }
            return w;
        }

        int road() {
            int most = 0;
            for (int a = 0; a < 16; a++) {
                int b = a;
                while (b < 16 && sand[b] >= 5) {
                    b++;
                }
                most = Math.max(most, b - a);
            }
            return most;
        }

        int sum() {
            int all = 0;
            for (int s : sand) {
                all += s;
            }
            return all;
        }

        int builtSum() {
            return visitors.stream().mapToInt(v -> v.built).sum();
        }

        int draw() {
            z = z * 1103515245 + 12345;
            return z >>> 8;
        }

        boolean has(int i) {
            return i >= 0 && i < visitors.size();
        }
    }

    private static final class Page {
        int bits;
        List<Integer> numbers = new ArrayList<>();
    }

    private World w = new World();
    private World kept = null;
    private final StringBuilder tape = new StringBuilder();
    private final Page[] pages = new Page[4];
    private final int[] told = new int[7];

    private int find(int which) {
        told[which]++;
        return -1000001 - which;
    }

    private static boolean in(int v, int least, int most) {
        return least <= v && v <= most;
    }

    /** The call of that name with these arguments. */
    long call(String name, int[] a) {
        switch (name) {
            case "sand": return sand(a[0], a[1]);
            case "cell": return cell(a[0], a[1]);
            case "set": return set(a[0], a[1]);
            case "visitor": return visitor(a[0], a[1]);
            case "of": return of(a[0], a[1]);
            case "change": return change(a[0], a[1], a[2]);
            case "come": return w.has(a[0]) ? w.receive(a[0]) : find(BEYOND);
            case "go": return go(a[0]);
            case "now": return now(a[0]);
            case "high": return in(a[0], 0, 15) && in(a[1], 0, 100) ? w.days(a[1], 0).sand[a[0]] : find(BEYOND);
            case "built": return w.has(a[0]) && in(a[1], 0, 100) ? w.days(a[1], 0).visitors.get(a[0]).built : find(BEYOND);
            case "stands": return w.has(a[0]) ? first(x -> x.isUp(a[0])) : find(BEYOND);
            case "road": return in(a[0], 0, 16) ? first(x -> x.road() >= a[0]) : find(BEYOND);
            case "both": return w.has(a[0]) && w.has(a[1]) && a[0] != a[1] ? first(x -> x.isUp(a[0]) && x.isUp(a[1])) : find(BEYOND);
            case "empty": return first(x -> x.store == 0);
            case "fromFor": return w.has(a[0]) && in(a[1], 0, 40) ? longest(a[0], 1, 15, a[1]) : find(BEYOND);
            case "wideFor": return w.has(a[0]) && in(a[1], 0, 9999) && in(a[2], 0, 40)
                ? greatest(a[0], 2, 1, 8, a[2], x -> x.visitors.get(a[0]).built >= a[1]) : find(BEYOND);
            case "eachFor": return w.has(a[0]) && in(a[1], 0, 40)
                ? greatest(a[0], 4, 1, 9, a[1], x -> x.isUp(a[0])) : find(BEYOND);
            case "kindFor": return w.has(a[0]) && in(a[1], 0, 40) ? longest(a[0], 0, 6, a[1]) : find(BEYOND);
            case "windFor": return windFor(a[0], a[1]);
            case "away": return away(a[0], a[1]);
            case "fits": return told(a[0], a[1], a[2], 1, 15);
            case "kinds": return told(a[0], a[1], a[2], 0, 6);
            case "comings": return comings(a[0]);
            case "odds": return odds(a[0], a[1]);
            case "seed": return seed(a[0]);
            case "feed": return feed(a[0], a[1]);
            case "wipe": return wipe();
            case "text": return text();
            case "hold": return hold(a[0], a[1]);
            case "as": return as(a[0], a[1]);
            case "sheet": return sheet(a[0], a[1], a[2]);
            case "write": return write(a[0], a[1], a[2]);
            case "copy": return copy(a[0], a[1], a[2], a[3], a[4]);
            case "load": return load(a[0]);
            case "judge": return judge(a[0]);
            case "image": kept = w.twin(); return 1;
            case "undo": return undo();
            case "tear": return tear();
            case "count": return count(a[0]);
            case "status": return status(a[0]);
            default: throw new IllegalArgumentException(name);
        }
    }

    private interface Wish {
        boolean holds(World w);
    }

    private int first(Wish wish) {
        for (int n = 0; n <= 100; n++) {
            if (wish.holds(w.days(n, 0))) {
                return n;
            }
        }
        return find(NONE);
    }

    private World changed(int i, int what, int value) {
        World t = w.twin();
        t.visitors.set(i, with(t.visitors.get(i), what, value));
        return t;
    }

    private int longest(int i, int what, int most, int n) {
        int best = most;
        for (int v = most; v >= 0; v--) {
            if (changed(i, what, v).days(n, 0).road() >= changed(i, what, best).days(n, 0).road()) {
                best = v;
            }
        }
        return best;
    }

    private int greatest(int i, int what, int least, int most, int n, Wish wish) {
        int best = -1;
        for (int v = least; v <= most; v++) {
            if (wish.holds(changed(i, what, v).days(n, 0))) {
                best = v;
            }
        }
        return best < 0 ? find(NONE) : best;
    }

    private int windFor(int i, int n) {
        if (!w.has(i) || !in(n, 0, 40)) {
            return find(BEYOND);
        }
        int best = -1;
        for (int wind = 0; wind <= 5; wind++) {
            World t = w.twin();
            t.wind = wind;
            if (t.days(n, 0).isUp(i)) {
                best = wind;
            }
        }
        return best < 0 ? find(NONE) : best;
    }

    private int away(int i, int n) {
        if (!w.has(i) || !in(n, 0, 12)) {
            return find(BEYOND);
        }
        int best = -1;
        for (int set = 0; set < 1 << w.visitors.size(); set++) {
            if (w.days(n, set).isUp(i) && (best < 0 || Integer.bitCount(set) < Integer.bitCount(best))) {
                best = set;
            }
        }
        return best < 0 ? find(NONE) : best;
    }

    private int told(int s, int i, int n, int what, int most) {
        if (!in(s, 0, 3)) {
            return find(BEYOND);
        }
        if (pages[s] == null) {
            return find(MISSING);
        }
        if (!w.has(i) || !in(n, 0, 20)) {
            return find(BEYOND);
        }
        int set = 0;
        for (int v = 0; v <= most; v++) {
            World t = changed(i, what, v).days(n, 0);
            boolean fits = true;
            for (int c = 0; c < 16 && c < pages[s].numbers.size(); c++) {
                int number = pages[s].numbers.get(c);
                fits &= number == -1 || number == t.sand[c];
            }
            set += fits ? 1 << v : 0;
        }
        return set;
    }

    private int sand(int c, int v) {
        if (!in(c, 0, 15) || !in(v, 0, 30)) {
            return find(BEYOND);
        }
        int was = w.sand[c];
        w.sand[c] = v;
        return was;
    }

    private int cell(int c, int what) {
        if (!in(c, 0, 15) || !in(what, 0, 1)) {
            return find(BEYOND);
        }
        if (what == 0) {
            return w.sand[c];
        }
        int set = 0;
        for (int i = 0; i < w.visitors.size(); i++) {
            set += w.visitors.get(i).cells().contains(c) ? 1 << i : 0;
        }
        return set;
    }

    private int set(int what, int v) {
        int was;
        if (what == 0 && in(v, 0, 9999)) {
            was = w.store;
            w.store = v;
        } else if (what == 1 && in(v, 0, 5)) {
            was = w.wind;
            w.wind = v;
        } else if (what == 2 && in(v, 0, 9)) {
            was = w.wet;
            w.wet = v;
        } else {
            return find(BEYOND);
        }
        return was;
    }

    private int visitor(int kind, int from) {
        if (!in(kind, 0, 6) || !in(from, 0, 15)) {
            return find(BEYOND);
        }
        if (w.visitors.size() == 8) {
            return find(FULL);
        }
        w.visitors.add(with(make(kind), 1, from));
        return w.visitors.size() - 1;
    }

    private int of(int i, int what) {
        if (!w.has(i) || !in(what, 0, 10)) {
            return find(BEYOND);
        }
        Visitor v = w.visitors.get(i);
        switch (what) {
            case 7: return v.cells().stream().mapToInt(c -> 1 << c).sum();
            case 8: return v.raises(w);
            case 9: return v.moves(w);
            case 10: return w.isUp(i) ? 1 : 0;
            default: return get(v, what);
        }
    }

    private int change(int i, int what, int v) {
        int[][] ranges = {{0, 6}, {0, 15}, {1, 8}, {0, 20}, {1, 9}, {0, 9999}, {0, 9999}};
        if (!w.has(i) || !in(what, 0, 6) || !in(v, ranges[what][0], ranges[what][1])) {
            return find(BEYOND);
        }
        int was = get(w.visitors.get(i), what);
        w.visitors.set(i, with(w.visitors.get(i), what, v));
        return was;
    }

    private int go(int n) {
        if (!in(n, 1, 60)) {
            return find(BEYOND);
        }
        if (w.day + n > 99999) {
            return find(STATE);
        }
        w = w.days(n, 0);
        return w.road();
    }

    private int now(int what) {
        int set = 0;
        switch (what) {
            case 0: return w.day;
            case 1: return w.road();
            case 2: return w.sum();
            case 3: return w.store;
            case 4:
                for (int i = 0; i < w.visitors.size(); i++) {
                    set += w.isUp(i) ? 1 << i : 0;
                }
                return set;
            case 5:
                int best = 15;
                for (int c = 15; c >= 0; c--) {
                    best = w.sand[c] >= w.sand[best] ? c : best;
                }
                return best;
            case 6: return w.builtSum();
            case 7:
                for (int i = 0; i < w.visitors.size(); i++) {
                    set += w.day % w.visitors.get(i).each == 0 ? 1 << i : 0;
                }
                return set;
            default: return find(BEYOND);
        }
    }

    private int comings(int n) {
        if (!in(n, 1, 20)) {
            return find(BEYOND);
        }
        if (w.day + n > 99999) {
            return find(STATE);
        }
        for (int time = 0; time < n; time++) {
            int i = w.draw() % 8;
            int from = w.draw() % 16;
            if (w.has(i)) {
                w.visitors.get(i).from = from;
                w.receive(i);
            }
            w.day(0);
        }
        return w.road();
    }

    private long odds(int n, int what) {
        if (!in(n, 0, 15) || !in(what, 0, 1)) {
            return find(BEYOND);
        }
        int good = 0;
        for (int s : w.sand) {
            good += s >= 5 ? 1 : 0;
        }
        BigInteger above = BigInteger.valueOf(good).pow(n);
        BigInteger below = BigInteger.valueOf(16).pow(n);
        return (what == 0 ? above : below).divide(above.gcd(below)).longValueExact();
    }

    private int seed(int v) {
        int was = w.z;
        w.z = v;
        return was;
    }

    private int feed(int bytes, int n) {
        if (!in(n, 1, 4)) {
            return find(BEYOND);
        }
        if (tape.length() + n > 120) {
            return find(FULL);
        }
        for (int i = n; i > 0; i--) {
            tape.append((char) (bytes >>> 8 * (i - 1) & 255));
        }
        return tape.length();
    }

    private int wipe() {
        int had = tape.length();
        tape.setLength(0);
        return had;
    }

    /** Thrown with the place of a token that can't stand there. */
    private static final class Fault extends Exception {
        private static final long serialVersionUID = 1;
        final int place;

        Fault(int place) {
            this.place = place;
        }
    }

    private record Token(int place, String text) {
        /** Number within bounds, or a fault. */
        int number(int least, int most) throws Fault {
            if (!text.matches("[0-9]+") || new BigInteger(text).compareTo(BigInteger.valueOf(9999)) > 0
                || !in(Integer.parseInt(text), least, most)) {
                throw new Fault(place);
            }
            return Integer.parseInt(text);
        }
    }

    private int text() {
        List<Token> tokens = new ArrayList<>();
        Matcher m = Pattern.compile("[a-z]+|[0-9]+|[^ ]").matcher(tape);
        while (m.find()) {
            tokens.add(new Token(m.start(), m.group()));
        }
        tokens.add(new Token(tape.length(), ""));
        tape.setLength(0);
        World t = w.twin();
        int at = 0;
        int items = 0;
        try {
            while (true) {
                at = item(t, tokens, at);
                items++;
                if (tokens.get(at).text.isEmpty()) {
                    w = t;
                    return items;
                }
                if (!tokens.get(at).text.equals(";")) {
                    throw new Fault(tokens.get(at).place);
                }
                at++;
            }
        } catch (Fault f) {
            return -1 - f.place;
        }
    }

    private static int item(World t, List<Token> tokens, int at) throws Fault {
        List<String> words = List.of("visitor", "child", "lover", "boy", "digger", "traveller", "bride");
        Token word = tokens.get(at);
        switch (word.text) {
            case "sand":
                int c = tokens.get(at + 1).number(0, 15);
                t.sand[c] = tokens.get(at + 2).number(0, 30);
                return at + 3;
            case "store":
                t.store = tokens.get(at + 1).number(0, 9999);
                return at + 2;
            case "wind":
                t.wind = tokens.get(at + 1).number(0, 5);
                return at + 2;
            case "wet":
                t.wet = tokens.get(at + 1).number(0, 9);
                return at + 2;
            default:
                if (!words.contains(word.text) || t.visitors.size() == 8) {
                    throw new Fault(word.place);
                }
                return traits(t, make(words.indexOf(word.text)), tokens, at + 1);
        }
    }

    private static int traits(World t, Visitor v, List<Token> tokens, int at) throws Fault {
        int place = at;
        if (tokens.get(place).text.equals("from")) {
            v.from = tokens.get(place + 1).number(0, 15);
            place += 2;
        }
        if (tokens.get(place).text.equals("wide")) {
            v.wide = tokens.get(place + 1).number(1, 8);
            place += 2;
        }
        if (tokens.get(place).text.equals("high")) {
            v.high = tokens.get(place + 1).number(0, 20);
            place += 2;
        }
        if (tokens.get(place).text.equals("each")) {
            v.each = tokens.get(place + 1).number(1, 9);
            place += 2;
        }
        t.visitors.add(v);
        return place;
    }

    private int hold(int spot, int i) {
        if (!in(spot, 0, 9) || i != -1 && !w.has(i)) {
            return find(BEYOND);
        }
        w.spots[spot] = i == -1 ? null : i;
        return 1;
    }

    private int as(int spot, int kind) {
        if (!in(spot, 0, 9) || !in(kind, 0, 6)) {
            return find(BEYOND);
        }
        if (w.spots[spot] == null) {
            return find(MISSING);
        }
        return KINDS.get(kind).isInstance(w.visitors.get(w.spots[spot])) ? w.spots[spot] : find(KIND);
    }

    private int sheet(int s, int bits, int n) {
        if (!in(s, 0, 3) || !List.of(0, 8, 16, 32).contains(bits)) {
            return find(BEYOND);
        }
        if (n < 0) {
            return find(SIZE);
        }
        if (n > 40) {
            return find(BEYOND);
        }
        pages[s] = null;
        if (bits == 0) {
            return 0;
        }
        pages[s] = new Page();
        pages[s].bits = bits;
        for (int i = 0; i < n; i++) {
            pages[s].numbers.add(0);
        }
        return n;
    }

    private int write(int s, int i, int v) {
        if (!in(s, 0, 3)) {
            return find(BEYOND);
        }
        if (pages[s] == null) {
            return find(MISSING);
        }
        if (!in(i, 0, pages[s].numbers.size() - 1)) {
            return find(BEYOND);
        }
        int spare = 32 - pages[s].bits;
        pages[s].numbers.set(i, v << spare >> spare);
        return 1;
    }

    private int copy(int s, int from, int t, int to, int n) {
        if (!in(s, 0, 3) || !in(t, 0, 3)) {
            return find(BEYOND);
        }
        if (pages[s] == null || pages[t] == null) {
            return find(MISSING);
        }
        if (pages[s].bits != pages[t].bits) {
            return find(KIND);
        }
        if (from < 0 || to < 0 || n < 0 || (long) from + n > pages[s].numbers.size() || (long) to + n > pages[t].numbers.size()) {
            return find(BEYOND);
        }
        List<Integer> part = new ArrayList<>(pages[s].numbers.subList(from, from + n));
        for (int i = 0; i < n; i++) {
            pages[t].numbers.set(to + i, part.get(i));
        }
        return n;
    }

    private int load(int s) {
        if (!in(s, 0, 3)) {
            return find(BEYOND);
        }
        if (pages[s] == null) {
            return find(MISSING);
        }
        int came = 0;
        for (int number : pages[s].numbers) {
            if (came == 16 || !in(number, 0, 30)) {
                break;
            }
            w.sand[came] = number;
            came++;
        }
        return came;
    }

    private int judge(int s) {
        if (!in(s, 0, 3)) {
            return find(BEYOND);
        }
        if (pages[s] == null) {
            return find(MISSING);
        }
        int place = 0;
        for (int number : pages[s].numbers) {
            if (!w.has(place) || w.visitors.get(place).built != number) {
                return 1 + place;
            }
            place++;
        }
        return 0;
    }

    private int undo() {
        if (kept == null) {
            return find(NONE);
        }
        w = kept.twin();
        return w.day;
    }

    private int tear() {
        int was = kept == null ? 0 : 1;
        kept = null;
        return was;
    }

    private int count(int what) {
        switch (what) {
            case 0: return w.day;
            case 1: return w.visitors.size();
            case 2: return w.sum();
            case 3: return w.store;
            case 4: return w.builtSum();
            case 5: return tape.length();
            case 6: return w.z;
            case 7:
                int held = 0;
                for (Integer spot : w.spots) {
                    held += spot == null ? 0 : 1;
                }
                return held;
            default: return find(BEYOND);
        }
    }

    private int status(int which) {
        if (!in(which, -1, 6)) {
            return find(BEYOND);
        }
        int all = 0;
        for (int one : told) {
            all += one;
        }
        return which == -1 ? all : told[which];
    }
}
