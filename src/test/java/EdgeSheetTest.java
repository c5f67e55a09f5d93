/** The edges that promises 31 to 42 name, a test for each sentence. */
public final class EdgeSheetTest {
    private static final int DIGGER = 4;

    public static void main(String[] args) {
        promise31Edges();
        promise31NobodyIsThere();
        promise31AllSpotsAndNone();
        promise32Edges();
        promise32Missing();
        promise32Kind();
        promise32OrderOfFindings();
        promise33Edges();
        promise33Bits();
        promise33Size();
        promise33OrderOfFindings();
        promise33EmptyFullAndMissing();
        promise33All0();
        promise34Edges();
        promise34OrderOfFindings();
        promise34LowestBits();
        promise35Edges();
        promise35OrderOfFindings();
        promise35NotSoMany();
        promise35NoneAndAll();
        promise35AsTheyAllWere();
        promise36Edges();
        promise36EndsAtTheFirstThatIsNot0To30();
        promise36EndsWhereThereIsNoCell();
        promise37Edges();
        promise37EmptyAndFull();
        promise37FirstThatIsNotSo();
        promise37Built9999();
        promise38KeepsAllButTapeAndSheets();
        promise38TheLatestCounts();
        promise39NothingIsKept();
        promise39ItStays();
        promise39TapeSheetsAndStatusStay();
        promise40SomethingAndNothing();
        promise41Edges();
        promise41EmptyAndFull();
        promise42Edges();
        promise42EachFinding();
        promise42NoFindings();
        Check.end("EdgeSheetTest");
    }

    private static void promise31Edges() {
        Scene.edges("promise 31: spot", (x, v) -> x.hold(v, 3), 0, 9);
        Scene.edges("promise 31: spot of nothing", (x, v) -> x.hold(v, -1), 0, 9);
        Scene.edges("promise 31: visitor of seven", (x, v) -> x.hold(9, v), -1, 6);
        Scene.edges("promise 31: visitor of eight", Scene::crowded, (x, v) -> x.hold(0, v), -1, 7);
    }

    private static void promise31NobodyIsThere() {
        SandLedger x = new SandLedger();
        Check.due("promise 31: nobody is there", x.hold(0, 0), Check.BEYOND);
        Check.due("promise 31: nothing", x.hold(0, -1), 1);
        Check.due("promise 31: -2 is not nothing", x.hold(0, -2), Check.BEYOND);
    }

    private static void promise31AllSpotsAndNone() {
        SandLedger x = new SandLedger();
        x.visitor(DIGGER, 0);
        for (int spot = 0; spot < 10; spot++) {
            Check.due("promise 31: holds", x.hold(spot, 0), 1);
            Check.due("promise 31: so many", x.count(7), spot + 1);
        }
        for (int spot = 0; spot < 10; spot++) {
            Check.due("promise 31: holds nothing", x.hold(spot, -1), 1);
            Check.due("promise 31: nothing again", x.hold(spot, -1), 1);
            Check.due("promise 31: so many are left", x.count(7), 9 - spot);
        }
    }

    private static void promise32Edges() {
        Scene.edges("promise 32: spot", (x, v) -> x.as(v, 0), 0, 9);
        Scene.edges("promise 32: kind", (x, v) -> x.as(0, v), 0, 6);
        SandLedger x = Scene.crowded();
        x.hold(9, 7);
        Check.due("promise 32: the last spot holds the last", x.as(9, 3), 7);
        x.hold(0, 0);
        Check.due("promise 32: the first spot holds the first", x.as(0, 3), 0);
    }

    private static void promise32Missing() {
        for (int kind = 0; kind <= 6; kind++) {
            int asked = kind;
            Scene.refused("promise 32: holds nothing", x -> x.as(1, asked), Check.MISSING);
        }
    }

    /** Spot 0 holds a digger, 3 a bride, 9 a visitor. */
    private static void promise32Kind() {
        for (int kind : new int[] {2, 5, 6}) {
            Scene.refused("promise 32: a digger as " + kind, x -> x.as(0, kind), Check.KIND);
        }
        for (int kind : new int[] {1, 3, 4, 5}) {
            Scene.refused("promise 32: a bride as " + kind, x -> x.as(3, kind), Check.KIND);
        }
        for (int kind : new int[] {1, 2, 3, 4, 5, 6}) {
            Scene.refused("promise 32: a visitor as " + kind, x -> x.as(9, kind), Check.KIND);
        }
        SandLedger x = Scene.busy();
        for (int kind : new int[] {0, 1, 3, 4}) {
            Check.due("promise 32: a digger as " + kind, x.as(0, kind), 1);
        }
        for (int kind : new int[] {0, 2, 6}) {
            Check.due("promise 32: a bride as " + kind, x.as(3, kind), 6);
        }
        Check.due("promise 32: a visitor as 0", x.as(9, 0), 2);
        x.change(1, 0, 5);
        Check.due("promise 32: no digger any more", x.as(0, 4), Check.KIND);
        Check.due("promise 32: a traveller now", x.as(0, 5), 1);
    }

    private static void promise32OrderOfFindings() {
        Scene.refused("promise 32: kind -1 before missing", x -> x.as(1, -1), Check.BEYOND);
        Scene.refused("promise 32: kind 7 before missing", x -> x.as(1, 7), Check.BEYOND);
        Scene.refused("promise 32: kind 7 before kind", x -> x.as(9, 7), Check.BEYOND);
    }

    private static void promise33Edges() {
        for (int bits : new int[] {0, 8, 16, 32}) {
            Scene.edges("promise 33: sheet of " + bits, (x, v) -> x.sheet(v, bits, 3), 0, 3);
        }
        for (int bits : new int[] {8, 16, 32}) {
            Check.due("promise 33: no number", Scene.busy().sheet(0, bits, 0), 0);
            Check.due("promise 33: 40 numbers", Scene.busy().sheet(0, bits, 40), 40);
            Scene.refused("promise 33: 41 numbers", x -> x.sheet(0, bits, 41), Check.BEYOND);
            Scene.refused("promise 33: as many as an int", x -> x.sheet(0, bits, Integer.MAX_VALUE), Check.BEYOND);
        }
    }

    private static void promise33Bits() {
        for (int bits = -40; bits <= 72; bits++) {
            boolean isTaken = bits == 0 || bits == 8 || bits == 16 || bits == 32;
            int due = bits == 0 ? 0 : 3;
            Check.due("promise 33: bits " + bits, new SandLedger().sheet(0, bits, 3), isTaken ? due : Check.BEYOND);
        }
        for (int bits : new int[] {-8, -1, 1, 7, 9, 15, 17, 24, 31, 33, 64, Integer.MIN_VALUE, Integer.MAX_VALUE}) {
            Scene.refused("promise 33: bits " + bits, x -> x.sheet(0, bits, 3), Check.BEYOND);
        }
    }

    private static void promise33Size() {
        for (int bits : new int[] {0, 8, 16, 32}) {
            Scene.refused("promise 33: -1 of " + bits, x -> x.sheet(0, bits, -1), Check.SIZE);
            Scene.refused("promise 33: the least int of " + bits, x -> x.sheet(0, bits, Integer.MIN_VALUE), Check.SIZE);
        }
        Scene.refused("promise 33: -1 of a missing one", x -> x.sheet(3, 0, -1), Check.SIZE);
    }

    private static void promise33OrderOfFindings() {
        Scene.refused("promise 33: sheet 4 before size", x -> x.sheet(4, 8, -1), Check.BEYOND);
        Scene.refused("promise 33: sheet -1 before size", x -> x.sheet(-1, 8, -1), Check.BEYOND);
        Scene.refused("promise 33: bits 9 before size", x -> x.sheet(0, 9, -1), Check.BEYOND);
        Scene.refused("promise 33: 41 with bits 0", x -> x.sheet(0, 0, 41), Check.BEYOND);
    }

    private static void promise33EmptyFullAndMissing() {
        SandLedger x = Scene.busy();
        Check.due("promise 33: missing", x.sheet(0, 0, 40), 0);
        Check.due("promise 33: it is missing", x.write(0, 0, 1), Check.MISSING);
        Check.due("promise 33: missing again", x.sheet(0, 0, 0), 0);
        Check.due("promise 33: empty", x.sheet(0, 8, 0), 0);
        Check.due("promise 33: it is not missing", x.load(0), 0);
        Check.due("promise 33: but has no number", x.write(0, 0, 1), Check.BEYOND);
        Check.due("promise 33: full", x.sheet(0, 8, 40), 40);
        Check.due("promise 33: its last number", x.write(0, 39, 1), 1);
        Check.due("promise 33: none behind it", x.write(0, 40, 1), Check.BEYOND);
    }

    private static void promise33All0() {
        for (int bits : new int[] {8, 16, 32}) {
            SandLedger x = new SandLedger();
            x.sheet(0, bits, 40);
            for (int i = 0; i < 40; i++) {
                x.write(0, i, 9);
            }
            x.sheet(0, bits, 20);
            x.sheet(0, bits, 40);
            for (int begin = 0; begin < 40; begin += 10) {
                x.copy(0, begin, 0, 0, 10);
                Check.level(x, 5);
                x.load(0);
                Check.due("promise 33: all are 0", x.count(2), 0);
            }
        }
    }

    private static void promise34Edges() {
        Scene.edges("promise 34: sheet", (x, v) -> x.write(v, 0, 5), 0, 3);
        Scene.edges("promise 34: number of 20", (x, v) -> x.write(0, v, 5), 0, 19);
        Scene.edges("promise 34: number of 3", (x, v) -> x.write(1, v, 5), 0, 2);
        Scene.refused("promise 34: number 0 of none", x -> x.write(2, 0, 5), Check.BEYOND);
        Scene.refused("promise 34: number -1 of none", x -> x.write(2, -1, 5), Check.BEYOND);
    }

    private static void promise34OrderOfFindings() {
        Scene.refused("promise 34: missing", x -> x.write(3, 0, 5), Check.MISSING);
        Scene.refused("promise 34: missing before number -1", x -> x.write(3, -1, 5), Check.MISSING);
        Scene.refused("promise 34: missing before number 40", x -> x.write(3, 40, 5), Check.MISSING);
        Scene.refused("promise 34: no such sheet before number -1", x -> x.write(4, -1, 5), Check.BEYOND);
    }

    /** What a written number is, as far as sand can tell: 0 to 30, any (-1), or something else (-2). */
    private static int written(int bits, int v) {
        SandLedger x = new SandLedger();
        x.visitor(0, 5);
        Check.fill(x, 0, bits, v);
        if (x.load(0) == 1) {
            return x.cell(0, 0);
        }
        return x.fits(0, 0, 0) == 0xffff ? -1 : -2;
    }

    private static void promise34LowestBits() {
        for (int bits : new int[] {8, 16}) {
            int around = 1 << bits;
            Check.due("promise 34: once around", written(bits, around), 0);
            Check.due("promise 34: once around and 30", written(bits, around + 30), 30);
            Check.due("promise 34: once around and 31", written(bits, around + 31), -2);
            Check.due("promise 34: one less than around", written(bits, around - 1), -1);
            Check.due("promise 34: -1", written(bits, -1), -1);
            Check.due("promise 34: back around", written(bits, -around), 0);
            Check.due("promise 34: back around and 7", written(bits, 7 - around), 7);
            Check.due("promise 34: half around", written(bits, around / 2), -2);
            Check.due("promise 34: one less than half", written(bits, around / 2 - 1), -2);
            Check.due("promise 34: the least int", written(bits, Integer.MIN_VALUE), 0);
            Check.due("promise 34: the greatest int", written(bits, Integer.MAX_VALUE), -1);
        }
        Check.due("promise 34: 256 of 16 bits", written(16, 256), -2);
        Check.due("promise 34: 256 of 32 bits", written(32, 256), -2);
        Check.due("promise 34: 65536 of 32 bits", written(32, 65536), -2);
        Check.due("promise 34: 65535 of 32 bits", written(32, 65535), -2);
        Check.due("promise 34: -1 of 32 bits", written(32, -1), -1);
        Check.due("promise 34: the least int of 32 bits", written(32, Integer.MIN_VALUE), -2);
        Check.due("promise 34: the greatest int of 32 bits", written(32, Integer.MAX_VALUE), -2);
    }

    /** Two sheets of 8 bits: 20 numbers from 30 down, and five of 1 to 5. */
    private static SandLedger twoSheets() {
        SandLedger x = Scene.busy();
        Check.fill(x, 1, 8, 1, 2, 3, 4, 5);
        return x;
    }

    private static void promise35Edges() {
        Scene.edges("promise 35: s", EdgeSheetTest::twoSheets, (x, v) -> x.copy(v, 0, 1, 0, 0), 0, 3);
        Scene.edges("promise 35: t", EdgeSheetTest::twoSheets, (x, v) -> x.copy(1, 0, v, 0, 0), 0, 3);
        Scene.edges("promise 35: from", EdgeSheetTest::twoSheets, (x, v) -> x.copy(0, v, 1, 0, 3), 0, 17);
        Scene.edges("promise 35: to", EdgeSheetTest::twoSheets, (x, v) -> x.copy(0, 0, 1, v, 3), 0, 2);
        Scene.edges("promise 35: n", EdgeSheetTest::twoSheets, (x, v) -> x.copy(0, 0, 1, 0, v), 0, 5);
        Scene.edges("promise 35: n from the smaller", EdgeSheetTest::twoSheets, (x, v) -> x.copy(1, 0, 0, 0, v), 0, 5);
        Scene.edges("promise 35: from, of none", EdgeSheetTest::twoSheets, (x, v) -> x.copy(0, v, 1, 0, 0), 0, 20);
        Scene.edges("promise 35: to, of none", EdgeSheetTest::twoSheets, (x, v) -> x.copy(0, 0, 1, v, 0), 0, 5);
    }

    private static void promise35OrderOfFindings() {
        Scene.refused("promise 35: no such sheet before missing", x -> x.copy(4, 0, 3, 0, 0), Check.BEYOND);
        Scene.refused("promise 35: no such other sheet before missing", x -> x.copy(3, 0, 4, 0, 0), Check.BEYOND);
        Scene.refused("promise 35: from a missing one", x -> x.copy(3, 0, 0, 0, 0), Check.MISSING);
        Scene.refused("promise 35: to a missing one", x -> x.copy(0, 0, 3, 0, 0), Check.MISSING);
        Scene.refused("promise 35: both are missing", x -> x.copy(3, 0, 3, 0, 0), Check.MISSING);
        Scene.refused("promise 35: missing before too many", x -> x.copy(0, 0, 3, 0, 41), Check.MISSING);
        Scene.refused("promise 35: missing before n below 0", x -> x.copy(3, 0, 0, 0, -1), Check.MISSING);
        Scene.refused("promise 35: 8 to 16 bits", x -> x.copy(0, 0, 1, 0, 1), Check.KIND);
        Scene.refused("promise 35: 16 to 32 bits", x -> x.copy(1, 0, 2, 0, 0), Check.KIND);
        Scene.refused("promise 35: 32 to 8 bits", x -> x.copy(2, 0, 0, 0, 0), Check.KIND);
        Scene.refused("promise 35: kind before too many", x -> x.copy(0, 0, 1, 0, 41), Check.KIND);
        Scene.refused("promise 35: kind before from below 0", x -> x.copy(0, -1, 1, 0, 1), Check.KIND);
        Scene.refused("promise 35: kind before n below 0", x -> x.copy(0, 0, 1, 0, -1), Check.KIND);
    }

    private static void notSoMany(int s, int from, int t, int to, int n) {
        String name = "promise 35: copy " + s + " " + from + " " + t + " " + to + " " + n;
        Scene.refused(name, EdgeSheetTest::twoSheets, x -> x.copy(s, from, t, to, n), Check.BEYOND);
    }

    private static void promise35NotSoMany() {
        notSoMany(0, 18, 1, 0, 3);
        notSoMany(0, 20, 1, 0, 1);
        notSoMany(0, 21, 1, 0, 0);
        notSoMany(0, 0, 1, 3, 3);
        notSoMany(0, 0, 1, 5, 1);
        notSoMany(0, 0, 1, 6, 0);
        notSoMany(0, 0, 1, 0, 6);
        notSoMany(1, 0, 0, 0, 6);
        notSoMany(1, 0, 0, 16, 5);
        notSoMany(0, -1, 1, 0, 2);
        notSoMany(0, 0, 1, -1, 2);
        notSoMany(0, -1, 1, -1, 0);
        notSoMany(0, 3, 1, 3, -1);
        notSoMany(0, -1, 0, 0, 21);
        notSoMany(0, 2, 1, 2, Integer.MAX_VALUE);
        notSoMany(0, Integer.MAX_VALUE, 1, 0, Integer.MAX_VALUE);
        notSoMany(0, Integer.MAX_VALUE, 1, Integer.MAX_VALUE, 2);
        notSoMany(0, Integer.MIN_VALUE, 1, 0, Integer.MIN_VALUE);
        notSoMany(0, 1, 1, 1, Integer.MIN_VALUE);
        notSoMany(0, Integer.MIN_VALUE, 1, 0, Integer.MAX_VALUE);
    }

    private static void promise35NoneAndAll() {
        SandLedger x = twoSheets();
        Check.due("promise 35: none from the end to the end", x.copy(0, 20, 1, 5, 0), 0);
        Check.due("promise 35: all of the smaller one", x.copy(1, 0, 0, 15, 5), 5);
        Check.due("promise 35: down again", x.copy(0, 12, 0, 0, 8), 8);
        x.load(0);
        Check.sandIs("promise 35: the last of them", x, 18, 17, 16, 1, 2, 3, 4, 5, 22);
        Check.due("promise 35: all upon themselves", x.copy(0, 0, 0, 0, 20), 20);
        x.sheet(0, 32, 40);
        x.sheet(1, 32, 40);
        x.write(0, 39, 7);
        Check.due("promise 35: all 40", x.copy(0, 0, 1, 0, 40), 40);
        Check.due("promise 35: the last alone", x.copy(1, 39, 1, 0, 1), 1);
        x.load(1);
        Check.sandIs("promise 35: it came", x, 7, 0);
        x.sheet(0, 16, 0);
        x.sheet(1, 16, 0);
        Check.due("promise 35: none of none", x.copy(0, 0, 1, 0, 0), 0);
        Check.due("promise 35: one of none", x.copy(0, 0, 1, 0, 1), Check.BEYOND);
    }

    private static void promise35AsTheyAllWere() {
        for (int by = 1; by <= 4; by++) {
            SandLedger x = twoSheets();
            Check.due("promise 35: up by " + by, x.copy(1, 0, 1, by, 5 - by), 5 - by);
            x.load(1);
            for (int i = 0; i < 5; i++) {
                Check.due("promise 35: up by " + by + ", " + i, x.cell(i, 0), i < by ? i + 1 : i - by + 1);
            }
            x = twoSheets();
            Check.due("promise 35: down by " + by, x.copy(1, by, 1, 0, 5 - by), 5 - by);
            x.load(1);
            for (int i = 0; i < 5; i++) {
                Check.due("promise 35: down by " + by + ", " + i, x.cell(i, 0), i < 5 - by ? i + by + 1 : i + 1);
            }
        }
    }

    private static void promise36Edges() {
        Scene.edges("promise 36: sheet", (x, v) -> x.load(v), 0, 3);
        Scene.refused("promise 36: missing", x -> x.load(3), Check.MISSING);
        Check.due("promise 36: no number", Scene.busy().load(2), 0);
    }

    private static void promise36EndsAtTheFirstThatIsNot0To30() {
        for (int bits : new int[] {8, 16, 32}) {
            for (int place = 0; place < 4; place++) {
                for (int v : new int[] {-1, 0, 30, 31, 127, -128}) {
                    SandLedger x = new SandLedger();
                    Check.fill(x, 0, bits, 9, 9, 9, 9);
                    x.write(0, place, v);
                    boolean isSand = v >= 0 && v <= 30;
                    Check.due("promise 36: " + v + " at " + place, x.load(0), isSand ? 4 : place);
                    Check.due("promise 36: sand there", x.cell(place, 0), isSand ? v : 5);
                    Check.due("promise 36: sand behind it", x.cell(3, 0), place == 3 && isSand ? v : isSand ? 9 : 5);
                    Check.due("promise 36: sand ahead of it", x.cell(0, 0), place > 0 ? 9 : isSand ? v : 5);
                    Check.due("promise 36: no finding", x.status(-1), 0);
                }
            }
        }
    }

    private static void promise36EndsWhereThereIsNoCell() {
        for (int n : new int[] {0, 1, 15, 16, 17, 40}) {
            SandLedger x = new SandLedger();
            x.sheet(0, 8, n);
            int came = Math.min(n, 16);
            Check.due("promise 36: of " + n, x.load(0), came);
            Check.due("promise 36: sand", x.count(2), 5 * (16 - came));
            Check.due("promise 36: store", x.count(3), 100);
        }
    }

    private static void promise37Edges() {
        Scene.edges("promise 37: sheet", (x, v) -> x.judge(v), 0, 3);
        Scene.refused("promise 37: missing", x -> x.judge(3), Check.MISSING);
        Scene.onlyTells("promise 37: judge", x -> x.judge(0));
    }

    private static void promise37EmptyAndFull() {
        SandLedger x = new SandLedger();
        x.sheet(0, 8, 0);
        Check.due("promise 37: no number and nobody", x.judge(0), 0);
        x.sheet(0, 8, 1);
        Check.due("promise 37: a number for nobody", x.judge(0), 1);
        for (int visitor = 0; visitor < 8; visitor++) {
            x.visitor(0, 0);
        }
        x.sheet(0, 8, 0);
        Check.due("promise 37: no number for eight", x.judge(0), 0);
        x.sheet(0, 8, 8);
        Check.due("promise 37: eight for eight", x.judge(0), 0);
        x.sheet(0, 8, 9);
        Check.due("promise 37: nine for eight", x.judge(0), 9);
        x.sheet(0, 8, 40);
        Check.due("promise 37: 40 for eight", x.judge(0), 9);
    }

    private static void promise37FirstThatIsNotSo() {
        SandLedger x = new SandLedger();
        for (int visitor = 0; visitor < 8; visitor++) {
            x.visitor(0, 0);
            x.change(visitor, 6, visitor);
        }
        Check.fill(x, 0, 8, 0, 1, 2, 3, 4, 5, 6, 7);
        for (int place = 7; place >= 0; place--) {
            Check.due("promise 37: all up to there are so", x.judge(0), place == 7 ? 0 : place + 2);
            x.write(0, place, place + 1);
            Check.due("promise 37: the first that isn't so", x.judge(0), place + 1);
        }
        x.write(0, 0, -1);
        Check.due("promise 37: -1 is not any", x.judge(0), 1);
    }

    private static void promise37Built9999() {
        SandLedger x = new SandLedger();
        x.visitor(0, 0);
        x.change(0, 6, 9999);
        Check.fill(x, 0, 16, 9999);
        Check.due("promise 37: 9999 of 16 bits", x.judge(0), 0);
        Check.fill(x, 0, 32, 9999);
        Check.due("promise 37: 9999 of 32 bits", x.judge(0), 0);
        Check.fill(x, 0, 32, 9999 + 65536);
        Check.due("promise 37: more than that", x.judge(0), 1);
        Check.fill(x, 0, 8, 9999);
        Check.due("promise 37: 8 bits have no 9999", x.judge(0), 1);
        x.change(0, 6, 127);
        Check.fill(x, 0, 8, 127);
        Check.due("promise 37: 127 of 8 bits", x.judge(0), 0);
    }

    /** Changes all that an image keeps. */
    private static void upset(SandLedger x) {
        for (int cell = 0; cell < 16; cell++) {
            x.sand(cell, cell);
        }
        for (int visitor = 0; visitor < 7; visitor++) {
            for (int what = 0; what <= 6; what++) {
                x.change(visitor, what, 5 - visitor % 2);
            }
        }
        x.visitor(1, 1);
        for (int spot = 0; spot < 10; spot++) {
            x.hold(spot, 7);
        }
        x.set(0, 1);
        x.set(1, 1);
        x.set(2, 1);
        x.seed(1);
        x.go(1);
    }

    private static void promise38KeepsAllButTapeAndSheets() {
        SandLedger x = Scene.busy();
        Check.due("promise 38: image", x.image(), 1);
        upset(x);
        Check.due("promise 39: day", x.undo(), 5);
        SandLedger untouched = Scene.busy();
        untouched.image();
        Scene.same("promise 38: all is back", Scene.told(x), Scene.told(untouched));
    }

    private static void promise38TheLatestCounts() {
        SandLedger x = new SandLedger();
        x.image();
        x.go(1);
        x.image();
        x.go(1);
        Check.due("promise 38: the latest", x.undo(), 1);
        Check.due("promise 38: not the one before", x.undo(), 1);
        x.go(2);
        Check.due("promise 38: image again", x.image(), 1);
        Check.due("promise 38: of now", x.undo(), 3);
    }

    private static void promise39NothingIsKept() {
        Scene.refused("promise 39: torn", () -> {
            SandLedger x = Scene.busy();
            x.tear();
            return x;
        }, x -> x.undo(), Check.NONE);
        Scene.refused("promise 39: never kept", SandLedger::new, x -> x.undo(), Check.NONE);
    }

    private static void promise39ItStays() {
        SandLedger x = Scene.busy();
        x.image();
        for (int i = 0; i < 3; i++) {
            x.go(9);
            x.sand(3, i);
            Check.due("promise 39: again", x.undo(), 5);
            Check.due("promise 39: sand", x.cell(3, 0), Scene.busy().cell(3, 0));
            Check.due("promise 39: at once again", x.undo(), 5);
        }
        Check.due("promise 39: it is still kept", x.tear(), 1);
    }

    private static void promise39TapeSheetsAndStatusStay() {
        SandLedger x = new SandLedger();
        x.image();
        x.feed(0x77657439, 4);
        Check.fill(x, 3, 8, 7);
        x.sand(16, 0);
        x.undo();
        Check.due("promise 39: the tape stays", x.count(5), 4);
        Check.due("promise 39: the status stays", x.status(-1), 1);
        Check.due("promise 39: the sheet stays", x.load(3), 1);
        Check.due("promise 39: its number stays", x.cell(0, 0), 7);
        Check.due("promise 39: the text stays", x.text(), 1);
        Check.due("promise 39: what it tells", x.set(2, 2), 9);
        x.image();
        x.sheet(3, 0, 0);
        x.undo();
        Check.due("promise 39: no sheet comes back", x.load(3), Check.MISSING);
    }

    private static void promise40SomethingAndNothing() {
        SandLedger x = new SandLedger();
        Check.due("promise 40: nothing", x.tear(), 0);
        x.image();
        x.image();
        Check.due("promise 40: something", x.tear(), 1);
        Check.due("promise 40: nothing any more", x.tear(), 0);
        Check.due("promise 40: no finding", x.status(-1), 0);
        x = Scene.busy();
        x.image();
        x.undo();
        Check.due("promise 40: behind undo", x.tear(), 1);
    }

    private static void promise41Edges() {
        Scene.edges("promise 41: what", (x, v) -> x.count(v), 0, 7);
        for (int what = 0; what <= 7; what++) {
            int asked = what;
            Scene.onlyTells("promise 41: count " + what, x -> x.count(asked));
        }
    }

    private static void promise41EmptyAndFull() {
        SandLedger x = new SandLedger();
        x.set(1, 0);
        Check.level(x, 0);
        x.set(0, 0);
        x.seed(0);
        for (int what = 0; what <= 7; what++) {
            Check.due("promise 41: empty, what " + what, x.count(what), 0);
        }
        Check.level(x, 30);
        x.set(0, 9999);
        for (int visitor = 0; visitor < 8; visitor++) {
            x.visitor(0, 0);
            x.change(visitor, 6, 9999);
        }
        for (int spot = 0; spot < 10; spot++) {
            x.hold(spot, spot % 8);
        }
        for (int i = 0; i < 30; i++) {
            x.feed(0, 4);
        }
        x.seed(-1000001);
        x.go(60);
        int[] due = {60, 8, 480, 9999, 79992, 120, -1000001, 10};
        for (int what = 0; what <= 7; what++) {
            Check.due("promise 41: full, what " + what, x.count(what), due[what]);
        }
        Check.due("promise 41: no finding", x.status(-1), 0);
    }

    private static void promise42Edges() {
        Scene.edges("promise 42: which", (x, v) -> x.status(v), -1, 6);
        SandLedger x = new SandLedger();
        for (int i = 1; i <= 5; i++) {
            Check.due("promise 42: another one", x.status(i % 2 == 0 ? -2 : 7), Check.BEYOND);
            Check.due("promise 42: counted from then on", x.status(0), i);
            Check.due("promise 42: in all", x.status(-1), i);
        }
    }

    private static void promise42EachFinding() {
        SandLedger x = Scene.crowded();
        x.tear();
        x.sand(16, 0);
        x.visitor(0, 0);
        x.as(9, 6);
        x.undo();
        x.load(3);
        x.sheet(0, 8, -1);
        x.odds(16, 0);
        int[] due = {2, 1, 1, 1, 0, 1, 1};
        for (int which = 0; which <= 6; which++) {
            Check.due("promise 42: finding " + which, x.status(which), due[which]);
        }
        Check.due("promise 42: all", x.status(-1), 7);
        x.image();
        x.load(3);
        x.undo();
        Check.due("promise 42: undo takes none back", x.status(5), 2);
        Check.due("promise 42: asking counts nothing", x.status(-1), 8);
    }

    /** Answers that look like findings, and refusals that are told to be none. */
    private static void promise42NoFindings() {
        SandLedger x = new SandLedger();
        x.seed(-1000001);
        x.seed(-1000004);
        x.count(6);
        Check.due("promise 42: a fault", x.text(), -1);
        x.tear();
        x.wipe();
        Check.due("promise 42: none of these", x.status(-1), 0);
    }
}
