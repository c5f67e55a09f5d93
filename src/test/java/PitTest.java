/** Promises 1 to 10: a new object, the pit, its visitors, days. */
public final class PitTest {
    public static void main(String[] args) {
        promise1NewObject();
        promise2Sand();
        promise3Cell();
        promise4Set();
        promise5Visitor();
        promise6Of();
        promise6Spans();
        promise6RaisesAndMoves();
        promise7Change();
        promise8Come();
        promise8ComeOfDigger();
        promise9Go();
        promise9Slides();
        promise9DayLimit();
        promise10Now();
        setsOfEightVisitors();
        Check.end("PitTest");
    }

    private static void promise1NewObject() {
        SandLedger x = new SandLedger();
        for (int cell = 0; cell < 16; cell++) {
            Check.due("new: cell", x.cell(cell, 0), 5);
            Check.due("new: span sets", x.cell(cell, 1), 0);
        }
        Check.due("new: store", x.set(0, 0), 100);
        Check.due("new: wind", x.set(1, 0), 1);
        Check.due("new: wet", x.set(2, 0), 2);
        Check.due("new: z", x.count(6), 1);
        Check.due("new: day", x.count(0), 0);
        Check.due("new: visitors", x.count(1), 0);
        Check.due("new: tape", x.count(5), 0);
        Check.due("new: spots", x.count(7), 0);
        Check.due("new: status", x.status(-1), 0);
        for (int s = 0; s < 4; s++) {
            Check.due("new: sheet", x.load(s), Check.MISSING);
        }
        Check.due("new: no image", x.undo(), Check.NONE);
    }

    private static void promise2Sand() {
        SandLedger x = new SandLedger();
        Check.due("sand(0, 30)", x.sand(0, 30), 5);
        Check.due("sand(0, 0)", x.sand(0, 0), 30);
        Check.due("sand(15, 7)", x.sand(15, 7), 5);
        Check.due("cell(15, 0)", x.cell(15, 0), 7);
        Check.due("cell(0, 0)", x.cell(0, 0), 0);
        Check.due("cell(1, 0)", x.cell(1, 0), 5);
        Check.due("sand(-1, 5)", x.sand(-1, 5), Check.BEYOND);
        Check.due("sand(16, 5)", x.sand(16, 5), Check.BEYOND);
        Check.due("sand(3, -1)", x.sand(3, -1), Check.BEYOND);
        Check.due("sand(3, 31)", x.sand(3, 31), Check.BEYOND);
        Check.due("sand(3, ..) changed nothing", x.cell(3, 0), 5);
        Check.due("store is as it was", x.count(3), 100);
    }

    private static void promise3Cell() {
        SandLedger x = new SandLedger();
        x.visitor(0, 3);
        x.visitor(2, 3);
        x.visitor(6, 4);
        Check.due("cell(0, 1)", x.cell(0, 1), 0);
        Check.due("cell(1, 1)", x.cell(1, 1), 2);
        Check.due("cell(2, 1)", x.cell(2, 1), 6);
        Check.due("cell(3, 1)", x.cell(3, 1), 7);
        Check.due("cell(5, 1)", x.cell(5, 1), 5);
        Check.due("cell(6, 1)", x.cell(6, 1), 0);
        Check.due("cell(-1, 0)", x.cell(-1, 0), Check.BEYOND);
        Check.due("cell(16, 1)", x.cell(16, 1), Check.BEYOND);
        Check.due("cell(0, -1)", x.cell(0, -1), Check.BEYOND);
        Check.due("cell(0, 2)", x.cell(0, 2), Check.BEYOND);
    }

    private static void promise4Set() {
        SandLedger x = new SandLedger();
        Check.due("set(0, 9999)", x.set(0, 9999), 100);
        Check.due("set(0, 0)", x.set(0, 0), 9999);
        Check.due("set(1, 5)", x.set(1, 5), 1);
        Check.due("set(1, 0)", x.set(1, 0), 5);
        Check.due("set(2, 9)", x.set(2, 9), 2);
        Check.due("set(2, 0)", x.set(2, 0), 9);
        Check.due("set(0, 10000)", x.set(0, 10000), Check.BEYOND);
        Check.due("set(0, -1)", x.set(0, -1), Check.BEYOND);
        Check.due("set(1, 6)", x.set(1, 6), Check.BEYOND);
        Check.due("set(1, -1)", x.set(1, -1), Check.BEYOND);
        Check.due("set(2, 10)", x.set(2, 10), Check.BEYOND);
        Check.due("set(2, -1)", x.set(2, -1), Check.BEYOND);
        Check.due("set(3, 0)", x.set(3, 0), Check.BEYOND);
        Check.due("set(-1, 0)", x.set(-1, 0), Check.BEYOND);
        Check.due("store", x.set(0, 1), 0);
        Check.due("wind", x.set(1, 1), 0);
        Check.due("wet", x.set(2, 1), 0);
    }

    private static void promise5Visitor() {
        SandLedger x = new SandLedger();
        Check.due("visitor(-1, 0)", x.visitor(-1, 0), Check.BEYOND);
        Check.due("visitor(7, 0)", x.visitor(7, 0), Check.BEYOND);
        Check.due("visitor(0, -1)", x.visitor(0, -1), Check.BEYOND);
        Check.due("visitor(0, 16)", x.visitor(0, 16), Check.BEYOND);
        for (int v = 0; v < 8; v++) {
            Check.due("visitor", x.visitor(v % 7, 15 - v), v);
        }
        for (int v = 0; v < 8; v++) {
            Check.traitsAre("a new visitor", x, v, v % 7, 15 - v, 3, 8, 2, 0, 0);
        }
        Check.due("visitor(0, 0)", x.visitor(0, 0), Check.FULL);
        Check.due("beyond is asked first", x.visitor(7, 0), Check.BEYOND);
        Check.due("count(1)", x.count(1), 8);
        newVisitorBehindUndoIsAsAtFirst();
    }

    private static void newVisitorBehindUndoIsAsAtFirst() {
        SandLedger x = new SandLedger();
        x.image();
        x.visitor(3, 4);
        for (int what = 2; what <= 6; what++) {
            x.change(0, what, 7);
        }
        x.undo();
        Check.due("visitor again", x.visitor(1, 2), 0);
        Check.traitsAre("a visitor behind undo", x, 0, 1, 2, 3, 8, 2, 0, 0);
    }

    private static void promise6Of() {
        SandLedger x = new SandLedger();
        Check.due("of(0, 0)", x.of(0, 0), Check.BEYOND);
        x.visitor(0, 0);
        Check.due("of(0, -1)", x.of(0, -1), Check.BEYOND);
        Check.due("of(0, 11)", x.of(0, 11), Check.BEYOND);
        Check.due("of(-1, 0)", x.of(-1, 0), Check.BEYOND);
        Check.due("of(1, 0)", x.of(1, 0), Check.BEYOND);
        Check.due("doesn't stand", x.of(0, 10), 0);
        Check.pour(x, 8, 9, 8);
        Check.due("stands", x.of(0, 10), 1);
        x.sand(2, 7);
        Check.due("stands no more", x.of(0, 10), 0);
        x.change(0, 0, 4);
        Check.pour(x, 0, 0, 1);
        Check.due("not dug", x.of(0, 10), 0);
        x.sand(2, 0);
        Check.due("dug", x.of(0, 10), 1);
    }

    private static int span(int kind, int from, int wide) {
        SandLedger x = new SandLedger();
        x.visitor(kind, from);
        x.change(0, 2, wide);
        return x.of(0, 7);
    }

    private static void promise6Spans() {
        int[] asVisitor = {0, 1, 3, 4};
        for (int kind : asVisitor) {
            Check.due("span of kind " + kind, span(kind, 4, 3), 0b1110000);
            Check.due("span of kind " + kind + " at the end", span(kind, 14, 8), 0b11 << 14);
            Check.due("span of kind " + kind + " to the end", span(kind, 8, 8), 0xff00);
            Check.due("span of kind " + kind + " at 15", span(kind, 15, 2), 1 << 15);
        }
        Check.due("span of a lover", span(2, 4, 3), 0b11100);
        Check.due("span of a lover at the begin", span(2, 1, 8), 0b11);
        Check.due("span of a lover to the begin", span(2, 7, 8), 0xff);
        Check.due("span of a bride", span(6, 4, 3), 0b111100);
        Check.due("span of a bride, 1 wide", span(6, 4, 1), 0b110000);
        Check.due("span of a bride at 15", span(6, 15, 2), 0b11 << 14);
        Check.due("span of a bride at 14", span(6, 14, 2), 0b111 << 13);
        Check.due("span of a bride at 0", span(6, 0, 8), 0b11);
        Check.due("span of a traveller", span(5, 9, 8), 1 << 9);
    }

    private static void promise6RaisesAndMoves() {
        SandLedger x = new SandLedger();
        int[] moves = {12, 20, 12, 40, 40, 1, 12};
        int[] raises = {13, 15, 6, 19, 0, 13, 8};
        x.set(1, 0);
        x.set(2, 8);
        x.visitor(0, 0);
        x.change(0, 3, 13);
        x.change(0, 5, 49);
        for (int kind = 0; kind < 7; kind++) {
            x.change(0, 0, kind);
            Check.due("raises of kind " + kind, x.of(0, 8), raises[kind]);
            Check.due("moves of kind " + kind, x.of(0, 9), moves[kind]);
        }
        x.set(1, 5);
        Check.due("moves of a bride in wind", x.of(0, 9), 7);
        x.change(0, 0, 5);
        Check.due("moves of a traveller in wind", x.of(0, 9), 1);
        x.change(0, 0, 3);
        x.set(2, 9);
        x.change(0, 5, 150);
        Check.due("raises of an old boy", x.of(0, 8), 30);
        x.change(0, 5, 9999);
        Check.due("raises of the oldest boy", x.of(0, 8), 30);
        x.change(0, 5, 139);
        Check.due("raises of a boy under 30", x.of(0, 8), 29);
    }

    private static void promise7Change() {
        SandLedger x = new SandLedger();
        Check.due("change of nobody", x.change(0, 1, 3), Check.BEYOND);
        x.visitor(1, 6);
        int[] first = {1, 6, 3, 8, 2, 0, 0};
        int[] least = {0, 0, 1, 0, 1, 0, 0};
        int[] most = {6, 15, 8, 20, 9, 9999, 9999};
        for (int what = 0; what < 7; what++) {
            Check.due("change to the least", x.change(0, what, least[what]), first[what]);
            Check.due("change to the most", x.change(0, what, most[what]), least[what]);
            Check.due("change below", x.change(0, what, least[what] - 1), Check.BEYOND);
            Check.due("change above", x.change(0, what, most[what] + 1), Check.BEYOND);
            Check.due("is the most", x.of(0, what), most[what]);
        }
        Check.due("change what -1", x.change(0, -1, 1), Check.BEYOND);
        Check.due("change what 7", x.change(0, 7, 1), Check.BEYOND);
        Check.due("change of 1", x.change(1, 1, 1), Check.BEYOND);
        Check.due("change of -1", x.change(-1, 1, 1), Check.BEYOND);
    }

    private static void promise8Come() {
        SandLedger x = new SandLedger();
        Check.due("come(0)", x.come(0), Check.BEYOND);
        x.visitor(0, 4);
        x.change(0, 2, 5);
        Check.due("come(-1)", x.come(-1), Check.BEYOND);
        Check.due("as much as it moves", x.come(0), 12);
        Check.sandIs("from the least cell on", x, 5, 5, 5, 5, 8, 8, 8, 8, 5, 5);
        Check.due("store", x.count(3), 88);
        Check.due("not built yet", x.of(0, 6), 0);
        x.sand(4, 20);
        x.set(0, 2);
        Check.due("as much as the store has", x.come(0), 2);
        Check.sandIs("part of a cell", x, 5, 5, 5, 5, 20, 8, 8, 8, 7, 5);
        Check.due("store is 0", x.count(3), 0);
        Check.due("nothing in store", x.come(0), 0);
        x.set(0, 9);
        Check.due("what was lacking", x.come(0), 1);
        Check.due("a higher cell keeps its sand", x.cell(4, 0), 20);
        Check.due("built", x.of(0, 6), 1);
        Check.due("nothing lacks", x.come(0), 0);
        Check.due("built again", x.of(0, 6), 2);
        Check.due("no age", x.of(0, 5), 0);
        Check.due("no day", x.count(0), 0);
        x.change(0, 6, 9999);
        x.come(0);
        Check.due("built 9999 at most", x.of(0, 6), 9999);
        loverComesFromTheLeastCellOn();
    }

    private static void loverComesFromTheLeastCellOn() {
        SandLedger x = new SandLedger();
        x.visitor(6, 6);
        x.change(0, 3, 20);
        x.set(1, 2);
        Check.due("bride comes", x.come(0), 10);
        Check.sandIs("bride", x, 5, 5, 5, 5, 12, 8, 5, 5, 5);
        x.change(0, 0, 5);
        Check.due("traveller comes", x.come(0), 1);
        Check.due("traveller's cell", x.cell(6, 0), 6);
    }

    private static void promise8ComeOfDigger() {
        SandLedger x = new SandLedger();
        x.visitor(4, 2);
        x.change(0, 2, 4);
        Check.pour(x, 5, 5, 20, 10, 15, 3, 5);
        Check.due("digger comes", x.come(0), 40);
        Check.sandIs("dug", x, 5, 5, 0, 0, 5, 3, 5);
        Check.due("store", x.count(3), 140);
        Check.due("not dug through", x.of(0, 6), 0);
        x.set(0, 9995);
        Check.due("digs all the same", x.come(0), 8);
        Check.due("what is more is lost", x.count(3), 9999);
        Check.due("sand that is left", x.count(2), 16 * 5 - 4 * 5);
        Check.due("dug through", x.of(0, 6), 1);
        x.sand(3, 4);
        Check.due("digs with a full store", x.come(0), 4);
        Check.due("full", x.count(3), 9999);
        x.set(0, 0);
        x.sand(3, 4);
        Check.due("digs with an empty store", x.come(0), 4);
        Check.due("store has it", x.count(3), 4);
    }

    private static void promise9Go() {
        SandLedger x = new SandLedger();
        Check.due("go(0)", x.go(0), Check.BEYOND);
        Check.due("go(61)", x.go(61), Check.BEYOND);
        Check.due("go(-1)", x.go(-1), Check.BEYOND);
        Check.due("no day went by", x.count(0), 0);
        x.set(1, 0);
        x.visitor(0, 2);
        x.visitor(4, 9);
        x.change(0, 4, 3);
        x.change(1, 2, 1);
        Check.due("day 0: both come", x.go(1), 9);
        Check.sandIs("day 0", x, 5, 5, 8, 8, 8, 5, 5, 5, 5, 0, 5);
        Check.due("age", x.of(0, 5), 1);
        Check.due("built 0", x.of(0, 6), 1);
        Check.due("built 1", x.of(1, 6), 1);
        Check.due("day 1, 2", x.go(2), 9);
        Check.due("built on day 0 alone", x.of(0, 6), 1);
        Check.due("built on days 0, 2", x.of(1, 6), 2);
        Check.due("day 3", x.go(1), 9);
        Check.due("built on days 0, 3", x.of(0, 6), 2);
        Check.due("60 days", x.go(60), 9);
        Check.due("day", x.count(0), 64);
        Check.due("age of all", x.of(1, 5), 64);
        x.change(1, 5, 9999);
        x.go(1);
        Check.due("age 9999 at most", x.of(1, 5), 9999);
        visitorsComeByNumbers();
    }

    private static void visitorsComeByNumbers() {
        SandLedger x = new SandLedger();
        x.visitor(4, 0);
        x.visitor(0, 0);
        x.set(1, 0);
        x.set(0, 0);
        x.go(1);
        Check.sandIs("the digger's sand is the next one's", x, 8, 4, 0, 5);
        Check.due("store", x.count(3), 3);
        Check.due("the digger built", x.of(0, 6), 1);
        Check.due("the other one did not", x.of(1, 6), 0);
        boyAgesBehindHisComing();
    }

    private static void boyAgesBehindHisComing() {
        SandLedger x = new SandLedger();
        x.visitor(3, 0);
        x.change(0, 2, 1);
        x.change(0, 4, 1);
        x.change(0, 5, 9);
        x.set(2, 9);
        x.go(1);
        Check.due("raised at age 9", x.cell(0, 0), 11);
        x.go(1);
        Check.due("raised at age 10", x.cell(0, 0), 12);
    }

    private static void promise9Slides() {
        SandLedger x = new SandLedger();
        x.set(2, 0);
        Check.pour(x, 12, 9, 6, 0, 0, 2, 5, 5, 5, 5, 5, 5, 5, 5, 5, 9);
        x.go(1);
        Check.sandIs("one gust", x, 11, 9, 6, 1, 0, 3, 4, 5, 5, 5, 5, 5, 5, 5, 6, 8);
        Check.due("sand in all", x.count(2), 12 + 9 + 6 + 2 + 5 * 9 + 9);
        x = new SandLedger();
        x.set(1, 5);
        x.set(2, 3);
        Check.pour(x, 5, 5, 5, 5, 5, 5, 5, 30);
        x.go(1);
        Check.sandIs("five gusts", x, 5, 5, 5, 5, 5, 5, 10, 20, 10, 5, 5);
        x = new SandLedger();
        x.set(1, 5);
        x.sand(0, 30);
        x.go(1);
        Check.sandIs("five gusts at the first cell", x, 25, 10, 5, 5);
        x = new SandLedger();
        x.set(1, 5);
        x.sand(15, 30);
        x.go(1);
        Check.due("five gusts at the last cell", x.cell(15, 0), 25);
        Check.due("the cell ahead of it", x.cell(14, 0), 10);
        x = new SandLedger();
        x.set(1, 0);
        Check.pour(x, 30, 0, 30);
        x.go(3);
        Check.sandIs("no wind", x, 30, 0, 30, 5);
        x = new SandLedger();
        x.sand(0, 9);
        x.go(1);
        Check.due("not more than the next one, wet and 2", x.cell(0, 0), 9);
        x.sand(0, 10);
        x.go(1);
        Check.due("more than the next one, wet and 2", x.cell(0, 0), 9);
    }

    /** The 512 calls that are promised can't reach the last day, so this goes on beyond them. */
    private static void promise9DayLimit() {
        SandLedger x = new SandLedger();
        x.visitor(0, 0);
        x.change(0, 4, 9);
        x.set(1, 0);
        for (int i = 0; i < 1666; i++) {
            x.go(60);
        }
        Check.due("day 99960", x.count(0), 99960);
        Check.due("age", x.of(0, 5), 9999);
        Check.due("go(40)", x.go(40), Check.STATE);
        Check.due("go(61)", x.go(61), Check.BEYOND);
        Check.due("go(30)", x.go(30), 16);
        Check.due("comings(10)", x.comings(10), Check.STATE);
        Check.due("z", x.count(6), 1);
        x.change(0, 6, 7);
        Check.due("the last day stays", x.built(0, 12), 7 + 4);
        x.image();
        Check.due("go(9)", x.go(9), 16);
        Check.due("the last day by go", x.count(0), 99999);
        x.undo();
        Check.due("comings(9)", x.comings(9), 16);
        Check.due("the last day", x.count(0), 99999);
        Check.due("go(1)", x.go(1), Check.STATE);
        Check.due("comings(1)", x.comings(1), Check.STATE);
        Check.due("status(4)", x.status(4), 4);
    }

    private static void setsOfEightVisitors() {
        SandLedger x = new SandLedger();
        for (int v = 0; v < 8; v++) {
            x.visitor(0, 7);
            x.change(v, 3, 5 + v % 2);
            x.change(v, 6, 1 + v);
            x.change(v, 4, 2 + v % 3);
        }
        Check.due("eight stand, or not", x.now(4), 0b01010101);
        Check.due("eight come", x.now(7), 0xff);
        Check.due("eight built", x.now(6), 36);
        Check.due("eight in a cell", x.cell(8, 1), 0xff);
        x.go(3);
        Check.due("on day 3", x.now(7), 0b10010010);
    }

    private static void promise10Now() {
        SandLedger x = new SandLedger();
        x.visitor(0, 0);
        x.visitor(5, 4);
        x.visitor(4, 8);
        x.change(1, 4, 3);
        x.change(2, 4, 1);
        Check.due("all come on day 0", x.now(7), 7);
        x.set(1, 0);
        x.go(3);
        Check.due("now(0)", x.now(0), 3);
        Check.due("now(1)", x.now(1), 8);
        Check.due("now(2)", x.now(2), 16 * 5 + 9 + 1 - 15);
        Check.due("now(3)", x.now(3), 100 - 9 - 1 + 15);
        Check.due("now(4)", x.now(4), 5);
        Check.due("now(5)", x.now(5), 0);
        Check.due("now(6)", x.now(6), 2 + 3);
        Check.due("now(7)", x.now(7), 6);
        x.sand(7, 9);
        x.sand(12, 9);
        Check.due("the least of the highest", x.now(5), 7);
        x.sand(15, 10);
        Check.due("the last is the highest", x.now(5), 15);
        Check.pour(x, 4, 5, 5, 4, 5, 5, 5);
        Check.due("the longest road", x.now(1), 5);
        x.sand(13, 4);
        Check.due("a shorter road", x.now(1), 4);
        for (int cell = 0; cell < 16; cell++) {
            x.sand(cell, cell == 1 ? 4 : 3);
        }
        Check.due("no road", x.now(1), 0);
        Check.due("the second is the highest", x.now(5), 1);
        Check.due("now(-1)", x.now(-1), Check.BEYOND);
        Check.due("now(8)", x.now(8), Check.BEYOND);
    }
}
