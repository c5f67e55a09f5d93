/** Promises 31 to 42: spots, sheets, images, counts. */
public final class SheetTest {
    public static void main(String[] args) {
        promise31Hold();
        promise32As();
        promise33Sheet();
        promise34Write();
        promise35Copy();
        promise36Load();
        promise37Judge();
        promise38Image();
        promise39Undo();
        promise40Tear();
        promise41Count();
        promise42Status();
        Check.end("SheetTest");
    }

    private static void promise31Hold() {
        SandLedger x = new SandLedger();
        Check.due("hold(0, 0) of nobody", x.hold(0, 0), Check.BEYOND);
        Check.due("hold(0, -1)", x.hold(0, -1), 1);
        x.visitor(0, 0);
        x.visitor(0, 0);
        Check.due("hold(0, 1)", x.hold(0, 1), 1);
        Check.due("hold(9, 0)", x.hold(9, 0), 1);
        Check.due("as(0, 0)", x.as(0, 0), 1);
        Check.due("as(9, 0)", x.as(9, 0), 0);
        Check.due("hold(10, 0)", x.hold(10, 0), Check.BEYOND);
        Check.due("hold(-1, 0)", x.hold(-1, 0), Check.BEYOND);
        Check.due("hold(0, 2)", x.hold(0, 2), Check.BEYOND);
        Check.due("hold(0, -2)", x.hold(0, -2), Check.BEYOND);
        Check.due("as(0, 0) is as before", x.as(0, 0), 1);
        Check.due("hold(0, -1)", x.hold(0, -1), 1);
        Check.due("as(0, 0) of nothing", x.as(0, 0), Check.MISSING);
    }

    private static void promise32As() {
        String[] under = {"0", "01", "02", "013", "0134", "05", "026"};
        SandLedger x = new SandLedger();
        x.visitor(0, 0);
        x.visitor(0, 0);
        x.hold(4, 1);
        for (int kind = 0; kind < 7; kind++) {
            x.change(1, 0, kind);
            for (int wanted = 0; wanted < 7; wanted++) {
                boolean is = under[kind].indexOf('0' + wanted) >= 0;
                Check.due(kind + " as " + wanted, x.as(4, wanted), is ? 1 : Check.KIND);
            }
        }
        Check.due("as(4, 7)", x.as(4, 7), Check.BEYOND);
        Check.due("as(4, -1)", x.as(4, -1), Check.BEYOND);
        Check.due("as(10, 0)", x.as(10, 0), Check.BEYOND);
        Check.due("as(-1, 0)", x.as(-1, 0), Check.BEYOND);
        Check.due("beyond before missing", x.as(3, 7), Check.BEYOND);
        Check.due("as(3, 6)", x.as(3, 6), Check.MISSING);
    }

    private static void promise33Sheet() {
        SandLedger x = new SandLedger();
        Check.due("sheet(0, 8, 40)", x.sheet(0, 8, 40), 40);
        Check.due("sheet(3, 16, 0)", x.sheet(3, 16, 0), 0);
        Check.due("not missing", x.load(3), 0);
        Check.due("sheet(1, 32, 5)", x.sheet(1, 32, 5), 5);
        Check.due("bits 0", x.sheet(1, 0, 5), 0);
        Check.due("missing", x.load(1), Check.MISSING);
        Check.due("sheet(-1, 8, 1)", x.sheet(-1, 8, 1), Check.BEYOND);
        Check.due("sheet(4, 8, 1)", x.sheet(4, 8, 1), Check.BEYOND);
        Check.due("no such sheet before size", x.sheet(4, 8, -1), Check.BEYOND);
        Check.due("other bits before size", x.sheet(0, 7, -1), Check.BEYOND);
        Check.due("64 bits", x.sheet(0, 64, 1), Check.BEYOND);
        Check.due("-8 bits", x.sheet(0, -8, 1), Check.BEYOND);
        Check.due("size", x.sheet(0, 8, -1), Check.SIZE);
        Check.due("size with bits 0", x.sheet(0, 0, -1), Check.SIZE);
        Check.due("the least size", x.sheet(0, 8, Integer.MIN_VALUE), Check.SIZE);
        Check.due("above 40", x.sheet(0, 8, 41), Check.BEYOND);
        Check.due("above 40 with bits 0", x.sheet(0, 0, 41), Check.BEYOND);
        Check.due("it is as before", x.write(0, 39, 3), 1);
        Check.due("laid out anew", x.sheet(0, 8, 40), 40);
        Check.due("all 0", x.load(0), 16);
        Check.due("zeros", x.count(2), 0);
        zerosBehindAShorterSheet();
    }

    private static void zerosBehindAShorterSheet() {
        SandLedger x = new SandLedger();
        Check.fill(x, 0, 8, 9, 9, 9);
        x.sheet(0, 8, 1);
        x.sheet(0, 8, 3);
        Check.due("load", x.load(0), 3);
        Check.sandIs("all 0", x, 0, 0, 0, 5);
        Check.fill(x, 0, 8, 9);
        x.sheet(0, 0, 0);
        x.sheet(0, 8, 1);
        x.sand(0, 7);
        x.load(0);
        Check.due("0 behind missing", x.cell(0, 0), 0);
    }

    /** What a written number is, if it is 0 to 9999, else -1; an object a try, as it is promised for 512 calls. */
    private static int written(int bits, int v) {
        for (int built = 0; built <= 9999; built++) {
            SandLedger x = new SandLedger();
            x.visitor(0, 0);
            x.sheet(0, bits, 1);
            x.write(0, 0, v);
            x.change(0, 6, built);
            if (x.judge(0) == 0) {
                return built;
            }
        }
        return -1;
    }

    private static void promise34Write() {
        SandLedger x = new SandLedger();
        Check.due("write(-1, ..)", x.write(-1, 0, 0), Check.BEYOND);
        Check.due("write(4, ..)", x.write(4, 0, 0), Check.BEYOND);
        Check.due("missing", x.write(0, -1, 0), Check.MISSING);
        x.sheet(0, 8, 3);
        Check.due("write(0, -1, 0)", x.write(0, -1, 0), Check.BEYOND);
        Check.due("write(0, 3, 0)", x.write(0, 3, 0), Check.BEYOND);
        Check.due("write(0, 2, 7)", x.write(0, 2, 7), 1);
        x.load(0);
        Check.sandIs("written", x, 0, 0, 7, 5);
        Check.due("8 bits", written(8, 0x107f), 127);
        Check.due("8 bits bear a sign", written(8, 200), -1);
        Check.due("16 bits", written(16, 0x1107f), 0x107f);
        Check.due("16 bits bear a sign", written(16, 40000), -1);
        Check.due("32 bits", written(32, 0x107f), 0x107f);
        Check.due("32 bits are all there", written(32, 0x1107f), -1);
    }

    private static void promise35Copy() {
        SandLedger x = new SandLedger();
        Check.due("copy from -1", x.copy(-1, 0, 0, 0, 0), Check.BEYOND);
        Check.due("copy from 4", x.copy(4, 0, 0, 0, 0), Check.BEYOND);
        Check.due("copy to -1", x.copy(0, 0, -1, 0, 0), Check.BEYOND);
        Check.due("copy to 4", x.copy(0, 0, 4, 0, 0), Check.BEYOND);
        Check.fill(x, 0, 8, 1, 2, 3, 4, 5);
        Check.due("to a missing one", x.copy(0, -1, 1, 0, 0), Check.MISSING);
        Check.due("from a missing one", x.copy(1, 0, 0, 0, -1), Check.MISSING);
        x.sheet(1, 16, 4);
        Check.due("of other bits", x.copy(0, -1, 1, 0, 0), Check.KIND);
        x.sheet(1, 8, 4);
        Check.due("from below 0", x.copy(0, -1, 1, 0, 1), Check.BEYOND);
        Check.due("to below 0", x.copy(0, 0, 1, -1, 1), Check.BEYOND);
        Check.due("n below 0", x.copy(0, 0, 1, 0, -1), Check.BEYOND);
        Check.due("not so many there", x.copy(0, 0, 1, 0, 5), Check.BEYOND);
        Check.due("not so many here", x.copy(0, 3, 1, 0, 3), Check.BEYOND);
        Check.due("not so many there, from 2 on", x.copy(0, 0, 1, 2, 3), Check.BEYOND);
        Check.due("as many as an int", x.copy(0, 1, 1, 1, Integer.MAX_VALUE), Check.BEYOND);
        Check.due("as far as an int", x.copy(0, Integer.MAX_VALUE, 1, 0, 1), Check.BEYOND);
        Check.due("to as far as an int", x.copy(0, 0, 1, Integer.MAX_VALUE, 1), Check.BEYOND);
        Check.due("none from the end on", x.copy(0, 5, 1, 4, 0), 0);
        Check.due("none from beyond the end", x.copy(0, 6, 1, 4, 0), Check.BEYOND);
        Check.due("three", x.copy(0, 2, 1, 1, 3), 3);
        x.load(1);
        Check.sandIs("copied", x, 0, 3, 4, 5, 5);
        Check.due("upon itself", x.copy(0, 0, 0, 1, 4), 4);
        x.load(0);
        Check.sandIs("as they all were, up", x, 1, 1, 2, 3, 4, 5);
        Check.due("upon itself, down", x.copy(0, 2, 0, 1, 3), 3);
        x.load(0);
        Check.sandIs("as they all were, down", x, 1, 2, 3, 4, 4, 5);
    }

    private static void promise36Load() {
        SandLedger x = new SandLedger();
        Check.due("load(-1)", x.load(-1), Check.BEYOND);
        Check.due("load(4)", x.load(4), Check.BEYOND);
        Check.due("load(0)", x.load(0), Check.MISSING);
        Check.fill(x, 0, 8, 30, 0, 31, 7);
        Check.due("up to 31", x.load(0), 2);
        Check.sandIs("loaded", x, 30, 0, 5, 5);
        Check.fill(x, 0, 8, 1, 2, 3, -1, 7);
        Check.due("up to -1", x.load(0), 3);
        Check.sandIs("loaded", x, 1, 2, 3, 5, 5);
        int[] much = new int[17];
        java.util.Arrays.fill(much, 9);
        Check.fill(x, 0, 32, much);
        Check.due("up to the last cell", x.load(0), 16);
        Check.due("sand", x.count(2), 16 * 9);
        Check.due("store stays", x.count(3), 100);
        Check.fill(x, 0, 8);
        Check.due("none", x.load(0), 0);
    }

    private static void promise37Judge() {
        SandLedger x = new SandLedger();
        Check.due("judge(-1)", x.judge(-1), Check.BEYOND);
        Check.due("judge(4)", x.judge(4), Check.BEYOND);
        Check.due("judge(0)", x.judge(0), Check.MISSING);
        Check.fill(x, 0, 16);
        Check.due("nothing told", x.judge(0), 0);
        Check.fill(x, 0, 16, 0);
        Check.due("no such visitor", x.judge(0), 1);
        x.visitor(0, 0);
        x.visitor(0, 0);
        x.visitor(0, 0);
        x.change(1, 6, 300);
        Check.due("less than all", x.judge(0), 0);
        Check.fill(x, 0, 16, 0, 300, 0);
        Check.due("all", x.judge(0), 0);
        Check.fill(x, 0, 16, 0, 300, 0, 0);
        Check.due("more than all", x.judge(0), 4);
        Check.fill(x, 0, 16, 0, 301, 1);
        Check.due("the first that isn't so", x.judge(0), 2);
        Check.fill(x, 0, 16, 1);
        Check.due("the very first", x.judge(0), 1);
        Check.fill(x, 3, 8, 0, 300);
        Check.due("its lowest bits are not it", x.judge(3), 2);
    }

    private static SandLedger busy() {
        SandLedger x = new SandLedger();
        Check.due("text", Check.read(x, "boy from 3;bride from 9 high 20;store 77;wind 2;wet 1;sand 8 22"), 6);
        x.hold(2, 1);
        x.seed(99);
        x.go(3);
        return x;
    }

    private static void sameAsBusy(SandLedger x) {
        SandLedger y = busy();
        for (int cell = 0; cell < 16; cell++) {
            Check.due("cell", x.cell(cell, 0), y.cell(cell, 0));
        }
        for (int what = 0; what <= 7; what++) {
            if (what != 5) {
                Check.due("count " + what, x.count(what), y.count(what));
            }
        }
        for (int v = 0; v < 2; v++) {
            for (int what = 0; what <= 10; what++) {
                Check.due("of " + what, x.of(v, what), y.of(v, what));
            }
        }
        Check.due("as", x.as(2, 6), 1);
        Check.due("wind", x.set(1, 2), 2);
        Check.due("wet", x.set(2, 1), 1);
    }

    private static void upset(SandLedger x) {
        for (int what = 0; what <= 6; what++) {
            x.change(1, what, 5);
        }
        x.visitor(4, 8);
        x.hold(2, -1);
        x.hold(3, 0);
        x.seed(5);
        x.set(0, 3);
        x.set(1, 5);
        x.set(2, 7);
        x.sand(0, 17);
        x.go(9);
    }

    private static void promise38Image() {
        SandLedger x = busy();
        Check.due("image()", x.image(), 1);
        sameAsBusy(x);
        upset(x);
        x.undo();
        sameAsBusy(x);
        upset(x);
        Check.due("image() anew", x.image(), 1);
        int day = x.count(0);
        int sand = x.count(2);
        x.go(3);
        Check.due("the latest", x.undo(), day);
        Check.due("the latest sand", x.count(2), sand);
    }

    private static void promise39Undo() {
        SandLedger x = busy();
        Check.due("nothing kept", x.undo(), Check.NONE);
        x.image();
        Check.fill(x, 1, 8, 4);
        upset(x);
        x.feed(0x77, 1);
        Check.due("undo()", x.undo(), 3);
        sameAsBusy(x);
        Check.due("the tape stays", x.count(5), 1);
        Check.due("sheets stay", x.write(1, 0, 4), 1);
        upset(x);
        Check.due("it stays kept", x.undo(), 3);
        sameAsBusy(x);
        Check.due("status is not taken back", x.status(-1), 1);
    }

    private static void promise40Tear() {
        SandLedger x = busy();
        Check.due("tear() of nothing", x.tear(), 0);
        x.image();
        x.go(1);
        Check.due("tear()", x.tear(), 1);
        Check.due("nothing kept", x.undo(), Check.NONE);
        Check.due("tear() again", x.tear(), 0);
        Check.due("day", x.count(0), 4);
        x.image();
        Check.due("kept anew", x.undo(), 4);
    }

    private static void promise41Count() {
        SandLedger x = busy();
        Check.due("count(0)", x.count(0), 3);
        Check.due("count(1)", x.count(1), 2);
        Check.due("count(2)", x.count(2), x.now(2));
        Check.due("count(3)", x.count(3), x.now(3));
        Check.due("sand in all", x.count(2) + x.count(3), 77 + 22 + 15 * 5);
        x.change(0, 6, 40);
        x.change(1, 6, 2);
        Check.due("count(4)", x.count(4), 42);
        x.feed(0, 3);
        Check.due("count(5)", x.count(5), 3);
        x.seed(-1000003);
        Check.due("count(6)", x.count(6), -1000003);
        x.hold(0, 0);
        x.hold(9, 0);
        Check.due("count(7)", x.count(7), 3);
        x.hold(0, -1);
        Check.due("count(7) less one", x.count(7), 2);
        Check.due("z is no finding", x.status(-1), 0);
        Check.due("count(-1)", x.count(-1), Check.BEYOND);
        Check.due("count(8)", x.count(8), Check.BEYOND);
    }

    private static void promise42Status() {
        SandLedger x = new SandLedger();
        x.image();
        x.sand(16, 0);
        for (int v = 0; v < 9; v++) {
            x.visitor(0, 0);
        }
        x.hold(0, 0);
        x.as(0, 1);
        x.as(0, 1);
        x.as(1, 1);
        x.sheet(0, 8, -1);
        x.sheet(0, 8, -2);
        x.sheet(0, 0, -2);
        x.road(16);
        x.set(0, 0);
        x.sand(0, 0);
        x.road(16);
        x.tear();
        x.undo();
        x.image();
        x.undo();
        int[] due = {1, 1, 2, 2, 0, 1, 3};
        for (int which = 0; which < 7; which++) {
            Check.due("status " + which, x.status(which), due[which]);
        }
        Check.due("status(-1)", x.status(-1), 10);
        Check.due("status(7)", x.status(7), Check.BEYOND);
        Check.due("status(0) counts it", x.status(0), 2);
        Check.due("status(-2)", x.status(-2), Check.BEYOND);
        Check.due("status(0) counts it too", x.status(0), 3);
        Check.due("status(-1) counts them", x.status(-1), 12);
    }
}
