import java.util.ArrayList;
import java.util.List;

/**
 * Objects in which everything is in use, made the same way each time, so that one on which a call was refused can be
 * compared with one on which it was never made.
 */
final class Scene {
    /** Makes an object anew. */
    interface Maker {
        SandLedger make();
    }

    interface Call {
        long on(SandLedger x);
    }

    /** A call of which one argument is looked at. */
    interface Edge {
        long on(SandLedger x, int v);
    }

    private Scene() {
    }

    /** Seven visitors, so that number 7 is the first that isn't there, and one more would still find room. */
    static SandLedger busy() {
        SandLedger x = new SandLedger();
        x.visitor(3, 2);
        x.visitor(4, 9);
        x.change(0, 5, 17);
        x.hold(0, 1);
        x.seed(-77);
        x.image();
        x.visitor(0, 0);
        x.visitor(1, 15);
        x.visitor(2, 7);
        x.visitor(5, 11);
        x.visitor(6, 14);
        for (int visitor = 0; visitor < 7; visitor++) {
            x.change(visitor, 4, 1 + visitor);
            x.change(visitor, 2, 8 - visitor);
            x.change(visitor, 6, 10 * visitor);
        }
        x.set(0, 60);
        x.set(1, 2);
        x.set(2, 3);
        x.sand(5, 30);
        x.sand(12, 0);
        x.hold(3, 6);
        x.hold(9, 2);
        x.seed(123456789);
        x.go(5);
        sheets(x);
        feed(x, "sand 3 4;store 8;wet 8;wind 4");
        return x;
    }

    /** As busy(), but with all eight visitors. */
    static SandLedger crowded() {
        SandLedger x = busy();
        x.visitor(3, 6);
        return x;
    }

    /** As busy(), but the tape has room for one byte alone. */
    static SandLedger taped() {
        SandLedger x = busy();
        feed(x, " ".repeat(119 - x.count(5)));
        return x;
    }

    /** One of each width: 20 numbers of 8 bits, 3 of 16, none of 32, and one that is missing. */
    private static void sheets(SandLedger x) {
        x.sheet(0, 8, 20);
        for (int i = 0; i < 20; i++) {
            x.write(0, i, 30 - i);
        }
        x.sheet(1, 16, 3);
        for (int i = 0; i < 3; i++) {
            x.write(1, i, 7 + i);
        }
        x.sheet(2, 32, 0);
    }

    /** Four bytes a call, as an object has only 512 of them. */
    private static void feed(SandLedger x, String text) {
        for (int begin = 0; begin < text.length(); begin += 4) {
            int end = Math.min(begin + 4, text.length());
            int bytes = 0;
            for (int i = begin; i < end; i++) {
                bytes = bytes << 8 | text.charAt(i);
            }
            x.feed(bytes, end - begin);
        }
    }

    /** The call must answer that finding, which is counted once and leaves no other trace. */
    static void refused(String name, Maker scene, Call call, int finding) {
        SandLedger x = scene.make();
        SandLedger untouched = scene.make();
        Check.due(name, call.on(x), finding);
        for (int which = -1; which <= 6; which++) {
            boolean counts = which == -1 || which == Check.BEYOND - finding;
            Check.due(name + ": status(" + which + ")", x.status(which), untouched.status(which) + (counts ? 1 : 0));
        }
        same(name + " changes nothing", told(x), told(untouched));
    }

    static void refused(String name, Call call, int finding) {
        refused(name, Scene::busy, call, finding);
    }

    /** The last values that are taken and the first that are refused, on both sides, and the farthest of all ints. */
    static void edges(String name, Maker scene, Edge call, int least, int most) {
        for (int v : new int[] {least, most}) {
            SandLedger x = scene.make();
            int before = x.status(0);
            call.on(x, v);
            Check.due(name + ": " + v + " is taken", x.status(0), before);
        }
        for (int v : new int[] {least - 1, most + 1, Integer.MIN_VALUE, Integer.MAX_VALUE}) {
            refused(name + ": " + v, scene, x -> call.on(x, v), Check.BEYOND);
        }
    }

    static void edges(String name, Edge call, int least, int most) {
        edges(name, Scene::busy, call, least, most);
    }

    /** A call that looks ahead, or one that only tells, leaves all as it was, whatever it answers. */
    static void onlyTells(String name, Call call) {
        SandLedger x = busy();
        call.on(x);
        same(name + " changes nothing", told(x), told(busy()));
    }

    static void same(String name, List<String> got, List<String> due) {
        Check.due(name + ": rows", got.size(), due.size());
        for (int i = 0; i < Math.min(got.size(), due.size()); i++) {
            Check.holds(name + ": " + got.get(i) + ", due is " + due.get(i), got.get(i).equals(due.get(i)));
        }
    }

    /** All that can be seen of an object but status(); it is of no more use then. */
    static List<String> told(SandLedger x) {
        List<String> rows = new ArrayList<>();
        tellPit(rows, "now", x);
        tellSheets(rows, x);
        rows.add("undo " + x.undo());
        tellPit(rows, "kept", x);
        rows.add("text " + x.text());
        tellPit(rows, "behind the text", x);
        rows.add("tear " + x.tear());
        return rows;
    }

    private static void tellPit(List<String> rows, String when, SandLedger x) {
        for (int what = 0; what <= 7; what++) {
            rows.add(when + ": count " + what + " is " + x.count(what));
        }
        for (int cell = 0; cell < 16; cell++) {
            rows.add(when + ": sand of " + cell + " is " + x.cell(cell, 0));
        }
        int visitors = x.count(1);
        for (int visitor = 0; visitor < visitors; visitor++) {
            for (int what = 0; what <= 6; what++) {
                rows.add(when + ": of " + visitor + " " + what + " is " + x.of(visitor, what));
            }
        }
        for (int spot = 0; spot < 10; spot++) {
            rows.add(when + ": spot " + spot + " is " + x.as(spot, 0));
        }
        rows.add(when + ": wind " + x.set(1, 0));
        rows.add(when + ": wet " + x.set(2, 0));
    }

    private static void tellSheets(List<String> rows, SandLedger x) {
        for (int s = 0; s < 4; s++) {
            tellLoaded(rows, s, x);
            if (x.copy(s, 16, s, 0, 4) == 4) {
                tellLoaded(rows, s, x);
            }
            for (int i : new int[] {0, 2, 3, 19, 20, 39}) {
                rows.add("write " + s + " " + i + " is " + x.write(s, i, 0));
            }
            for (int t = 0; t < s; t++) {
                rows.add("copy " + t + " to " + s + " is " + x.copy(t, 0, s, 0, 0));
            }
        }
    }

    private static void tellLoaded(List<String> rows, int s, SandLedger x) {
        int came = x.load(s);
        rows.add("load " + s + " is " + came);
        for (int cell = 0; cell < came; cell++) {
            rows.add("sheet " + s + ": " + x.cell(cell, 0));
        }
    }
}
