/** Promises 11 to 26: what will be, how to build, told sand, draws. */
public final class ForecastTest {
    public static void main(String[] args) {
        promise11High();
        promise12Built();
        promise13Stands();
        promise14Road();
        promise15Both();
        promise16Empty();
        promise17FromFor();
        promise18WideFor();
        promise19EachFor();
        promise20KindFor();
        promise21WindFor();
        promise22Away();
        promise23Fits();
        promise24Kinds();
        promise25Comings();
        promise26Odds();
        promise27Seed();
        Check.end("ForecastTest");
    }

    private static void promise11High() {
        SandLedger x = new SandLedger();
        x.visitor(5, 3);
        Check.due("high(3, 0)", x.high(3, 0), 5);
        Check.due("high(3, 1)", x.high(3, 1), 6);
        Check.due("high(3, 2)", x.high(3, 2), 6);
        Check.due("high(3, 3)", x.high(3, 3), 7);
        Check.due("high(3, 100)", x.high(3, 100), 8);
        Check.due("nothing changes", x.cell(3, 0), 5);
        Check.due("no day", x.count(0), 0);
        Check.due("no age", x.of(0, 5), 0);
        Check.due("no sand from store", x.count(3), 100);
        Check.due("high(0, 100)", x.high(0, 100), 5);
        Check.due("high(15, 100)", x.high(15, 100), 5);
        Check.due("high(-1, 0)", x.high(-1, 0), Check.BEYOND);
        Check.due("high(16, 0)", x.high(16, 0), Check.BEYOND);
        Check.due("high(0, -1)", x.high(0, -1), Check.BEYOND);
        Check.due("high(0, 101)", x.high(0, 101), Check.BEYOND);
    }

    private static void promise12Built() {
        SandLedger x = new SandLedger();
        Check.due("built of nobody", x.built(0, 0), Check.BEYOND);
        x.visitor(0, 3);
        x.change(0, 6, 4);
        Check.due("built(0, 0)", x.built(0, 0), 4);
        Check.due("built(0, 1)", x.built(0, 1), 5);
        Check.due("built(0, 2)", x.built(0, 2), 5);
        Check.due("built(0, 100)", x.built(0, 100), 54);
        Check.due("nothing changes", x.of(0, 6), 4);
        Check.due("built(0, -1)", x.built(0, -1), Check.BEYOND);
        Check.due("built(0, 101)", x.built(0, 101), Check.BEYOND);
        Check.due("built(-1, 0)", x.built(-1, 0), Check.BEYOND);
        Check.due("built(1, 0)", x.built(1, 0), Check.BEYOND);
    }

    private static void promise13Stands() {
        SandLedger x = new SandLedger();
        Check.due("stands of nobody", x.stands(0), Check.BEYOND);
        x.visitor(5, 3);
        Check.due("stands(0)", x.stands(0), 5);
        x.sand(3, 8);
        Check.due("stands now", x.stands(0), 0);
        x.sand(3, 5);
        x.set(0, 2);
        Check.due("never stands", x.stands(0), Check.NONE);
        x.set(0, 100);
        Check.due("stands(-1)", x.stands(-1), Check.BEYOND);
        Check.due("stands(1)", x.stands(1), Check.BEYOND);
        x.set(1, 0);
        x.change(0, 3, 17);
        x.change(0, 4, 9);
        Check.due("behind 100 days", x.stands(0), 100);
        x.go(1);
        Check.due("behind 99 days", x.stands(0), 99);
        x.change(0, 3, 18);
        Check.due("behind more than 100 days", x.stands(0), Check.NONE);
        Check.due("nothing changes", x.cell(3, 0), 6);
    }

    private static void promise14Road() {
        SandLedger x = new SandLedger();
        Check.pour(x, 4, 4, 5, 5, 5, 5, 5, 4, 5, 5, 5, 5, 5, 5, 4, 4);
        x.visitor(5, 7);
        x.change(0, 3, 5);
        x.change(0, 4, 3);
        x.go(1);
        x.sand(7, 4);
        Check.due("road(0)", x.road(0), 0);
        Check.due("road(6)", x.road(6), 0);
        Check.due("road(7)", x.road(7), 3);
        Check.due("road(12)", x.road(12), 3);
        Check.due("road(13)", x.road(13), Check.NONE);
        Check.due("road(16)", x.road(16), Check.NONE);
        Check.due("road(-1)", x.road(-1), Check.BEYOND);
        Check.due("road(17)", x.road(17), Check.BEYOND);
        Check.due("nothing changes", x.now(1), 6);
    }

    private static void promise15Both() {
        SandLedger x = new SandLedger();
        x.visitor(5, 3);
        x.visitor(5, 9);
        x.visitor(4, 3);
        x.set(1, 0);
        x.change(1, 3, 6);
        x.change(2, 4, 9);
        x.change(2, 2, 1);
        x.go(1);
        Check.due("both(0, 1)", x.both(0, 1), Check.NONE);
        x.change(0, 3, 3);
        Check.due("both(0, 1) later", x.both(0, 1), 6);
        Check.due("both(1, 0) later", x.both(1, 0), 6);
        Check.due("stands(1) earlier", x.stands(1), 0);
        Check.due("both(0, 0)", x.both(0, 0), Check.BEYOND);
        Check.due("both(0, 3)", x.both(0, 3), Check.BEYOND);
        Check.due("both(-1, 0)", x.both(-1, 0), Check.BEYOND);
        Check.due("both(0, -1)", x.both(0, -1), Check.BEYOND);
        Check.due("both(3, 0)", x.both(3, 0), Check.BEYOND);
        x.sand(3, 3);
        Check.due("both now", x.both(0, 1), 0);
    }

    private static void promise16Empty() {
        SandLedger x = new SandLedger();
        Check.due("empty()", x.empty(), Check.NONE);
        x.set(0, 10);
        x.visitor(0, 0);
        x.change(0, 2, 8);
        x.change(0, 4, 3);
        Check.due("empty() of 10", x.empty(), 1);
        x.set(0, 13);
        Check.due("empty() of 13", x.empty(), 4);
        x.set(0, 25);
        Check.due("empty() of 25", x.empty(), Check.NONE);
        x.set(0, 0);
        Check.due("empty() now", x.empty(), 0);
    }

    private static void promise17FromFor() {
        SandLedger x = new SandLedger();
        Check.due("fromFor of nobody", x.fromFor(0, 0), Check.BEYOND);
        Check.pour(x, 5, 5, 5, 0, 0, 0, 5, 5, 5, 0, 0, 5, 5, 5, 5, 5);
        x.visitor(0, 1);
        x.set(1, 0);
        x.change(0, 3, 5);
        Check.due("by the road of now", x.fromFor(0, 0), 0);
        Check.due("to bridge a gap", x.fromFor(0, 1), 8);
        x.change(0, 2, 2);
        Check.due("by a narrower one", x.fromFor(0, 1), 9);
        x.change(0, 0, 2);
        Check.due("by a lover of half the height", x.fromFor(0, 40), 0);
        x.change(0, 3, 10);
        Check.due("by a lover", x.fromFor(0, 40), 10);
        Check.due("nothing changes", x.of(0, 1), 1);
        Check.due("no sand", x.cell(9, 0), 0);
        Check.due("fromFor(0, -1)", x.fromFor(0, -1), Check.BEYOND);
        Check.due("fromFor(0, 41)", x.fromFor(0, 41), Check.BEYOND);
        Check.due("fromFor(-1, 1)", x.fromFor(-1, 1), Check.BEYOND);
        Check.due("fromFor(1, 1)", x.fromFor(1, 1), Check.BEYOND);
    }

    private static void promise18WideFor() {
        SandLedger x = new SandLedger();
        Check.due("wideFor of nobody", x.wideFor(0, 0, 0), Check.BEYOND);
        x.visitor(0, 2);
        Check.due("nothing asked", x.wideFor(0, 0, 0), 8);
        Check.due("too early", x.wideFor(0, 1, 0), Check.NONE);
        Check.due("12 sand for 3 each", x.wideFor(0, 1, 1), 4);
        Check.due("24 sand for 3 each", x.wideFor(0, 1, 3), 8);
        Check.due("twice", x.wideFor(0, 2, 3), 4);
        Check.due("built before", x.change(0, 6, 7), 0);
        Check.due("with what was built", x.wideFor(0, 8, 1), 4);
        Check.due("too much", x.wideFor(0, 9999, 40), Check.NONE);
        Check.due("wide is as it was", x.of(0, 2), 3);
        x.set(0, 2);
        Check.due("not even one", x.wideFor(0, 8, 40), Check.NONE);
        x.set(0, 3);
        Check.due("one alone", x.wideFor(0, 8, 40), 1);
        Check.due("wideFor(0, -1, 0)", x.wideFor(0, -1, 0), Check.BEYOND);
        Check.due("wideFor(0, 10000, 0)", x.wideFor(0, 10000, 0), Check.BEYOND);
        Check.due("wideFor(0, 0, -1)", x.wideFor(0, 0, -1), Check.BEYOND);
        Check.due("wideFor(0, 0, 41)", x.wideFor(0, 0, 41), Check.BEYOND);
        Check.due("wideFor(1, 0, 0)", x.wideFor(1, 0, 0), Check.BEYOND);
        Check.due("wideFor(-1, 0, 0)", x.wideFor(-1, 0, 0), Check.BEYOND);
    }

    private static void promise19EachFor() {
        SandLedger x = new SandLedger();
        Check.due("eachFor of nobody", x.eachFor(0, 0), Check.BEYOND);
        x.visitor(5, 3);
        Check.due("not yet", x.eachFor(0, 0), Check.NONE);
        Check.due("thrice in 2 days", x.eachFor(0, 2), Check.NONE);
        Check.due("thrice in 3 days", x.eachFor(0, 3), 1);
        Check.due("thrice in 5 days", x.eachFor(0, 5), 2);
        Check.due("thrice in 18 days", x.eachFor(0, 18), 8);
        Check.due("thrice in 40 days", x.eachFor(0, 40), 9);
        Check.due("each is as it was", x.of(0, 4), 2);
        Check.due("eachFor(0, -1)", x.eachFor(0, -1), Check.BEYOND);
        Check.due("eachFor(0, 41)", x.eachFor(0, 41), Check.BEYOND);
        Check.due("eachFor(1, 0)", x.eachFor(1, 0), Check.BEYOND);
        Check.due("eachFor(-1, 0)", x.eachFor(-1, 0), Check.BEYOND);
    }

    private static void promise20KindFor() {
        SandLedger x = new SandLedger();
        Check.due("kindFor of nobody", x.kindFor(0, 0), Check.BEYOND);
        Check.pour(x, 5, 5, 5, 5, 5, 0, 5, 5, 0, 5, 5, 5, 5, 5, 5, 5);
        x.set(1, 0);
        x.visitor(3, 8);
        x.change(0, 3, 5);
        Check.due("the least of those", x.kindFor(0, 0), 0);
        Check.due("a visitor will do", x.kindFor(0, 1), 0);
        x.change(0, 3, 3);
        x.set(2, 6);
        Check.due("a child, for the wet", x.kindFor(0, 1), 1);
        x.change(0, 3, 2);
        x.change(0, 5, 10);
        Check.due("a boy, for the age", x.kindFor(0, 1), 3);
        x.change(0, 5, 0);
        Check.due("none of them", x.kindFor(0, 1), 0);
        x.change(0, 2, 4);
        x.change(0, 3, 10);
        Check.due("a lover, for both gaps", x.kindFor(0, 1), 2);
        x.change(0, 3, 6);
        x.sand(5, 5);
        x.sand(9, 4);
        Check.due("a visitor again", x.kindFor(0, 1), 0);
        x.sand(5, 0);
        x.sand(6, 0);
        x.sand(7, 0);
        Check.due("a bride, for the cell ahead", x.kindFor(0, 10), 6);
        Check.due("kind is as it was", x.of(0, 0), 3);
        Check.due("kindFor(0, -1)", x.kindFor(0, -1), Check.BEYOND);
        Check.due("kindFor(0, 41)", x.kindFor(0, 41), Check.BEYOND);
        Check.due("kindFor(1, 0)", x.kindFor(1, 0), Check.BEYOND);
        Check.due("kindFor(-1, 0)", x.kindFor(-1, 0), Check.BEYOND);
    }

    private static void promise21WindFor() {
        SandLedger x = new SandLedger();
        Check.due("windFor of nobody", x.windFor(0, 0), Check.BEYOND);
        x.visitor(5, 3);
        x.change(0, 3, 20);
        x.set(2, 0);
        x.sand(3, 30);
        Check.due("stands now in any wind", x.windFor(0, 0), 5);
        Check.due("in all wind for a day", x.windFor(0, 1), 5);
        Check.due("in less wind for two days", x.windFor(0, 2), 2);
        Check.due("in no wind", x.windFor(0, 40), 0);
        x.sand(3, 19);
        x.go(1);
        x.sand(3, 19);
        Check.due("in none", x.windFor(0, 0), Check.NONE);
        Check.due("wind is as it was", x.set(1, 1), 1);
        x.set(2, 9);
        x.change(0, 4, 1);
        Check.due("in no wind, as it comes", x.windFor(0, 1), 0);
        x.sand(2, 12);
        x.sand(4, 12);
        Check.due("in any wind, as it comes", x.windFor(0, 1), 5);
        Check.due("windFor(0, -1)", x.windFor(0, -1), Check.BEYOND);
        Check.due("windFor(0, 41)", x.windFor(0, 41), Check.BEYOND);
        Check.due("windFor(1, 0)", x.windFor(1, 0), Check.BEYOND);
        Check.due("windFor(-1, 0)", x.windFor(-1, 0), Check.BEYOND);
    }

    private static void promise22Away() {
        SandLedger x = new SandLedger();
        Check.due("away of nobody", x.away(0, 0), Check.BEYOND);
        x.visitor(0, 3);
        Check.due("nobody must stay away", x.away(0, 1), 0);
        Check.due("not yet", x.away(0, 0), Check.NONE);
        x.visitor(4, 3);
        x.visitor(4, 5);
        x.change(2, 4, 3);
        x.set(1, 0);
        Check.due("one digger", x.away(0, 3), 2);
        Check.due("both diggers", x.away(0, 1), 6);
        Check.due("nothing changes", x.count(0), 0);
        Check.due("the digger's own: 2 never hinders it", x.away(1, 1), 0);
        x.change(1, 0, 0);
        x.change(1, 1, 5);
        x.change(2, 0, 4);
        x.change(2, 4, 1);
        x.change(2, 1, 12);
        Check.due("12 days", x.away(2, 12), 0);
        Check.due("away(0, -1)", x.away(0, -1), Check.BEYOND);
        Check.due("away(0, 13)", x.away(0, 13), Check.BEYOND);
        Check.due("away(3, 1)", x.away(3, 1), Check.BEYOND);
        Check.due("away(-1, 1)", x.away(-1, 1), Check.BEYOND);
        fewestCountFirstThenTheLeast();
        theToldOneMayStayAwayToo();
    }

    private static void fewestCountFirstThenTheLeast() {
        SandLedger x = new SandLedger();
        x.set(0, 21);
        x.visitor(0, 0);
        x.visitor(0, 4);
        x.visitor(0, 8);
        x.visitor(0, 12);
        x.change(0, 2, 1);
        x.change(1, 2, 1);
        x.change(2, 3, 9);
        Check.due("one with much beats two with little", x.away(3, 1), 4);
        x.change(0, 2, 3);
        x.change(1, 2, 3);
        x.change(2, 3, 8);
        x.change(3, 4, 9);
        x.set(0, 18);
        Check.due("two, the least", x.away(3, 1), 3);
        x.set(0, 27);
        Check.due("one, the least", x.away(3, 1), 1);
        x.set(0, 36);
        Check.due("none", x.away(3, 1), 0);
        x.set(0, 8);
        Check.due("too little in store", x.away(3, 1), Check.NONE);
    }

    /** A digger's own sand makes the heap that slides into its hole, while another one digs there too. */
    private static void theToldOneMayStayAwayToo() {
        SandLedger x = new SandLedger();
        Check.pour(x, 10, 0, 0, 0);
        x.set(0, 0);
        x.set(2, 0);
        x.visitor(4, 0);
        x.visitor(0, 1);
        x.visitor(4, 0);
        x.change(0, 2, 1);
        x.change(1, 2, 1);
        x.change(2, 2, 1);
        Check.due("the told one itself", x.away(0, 1), 1);
        Check.due("of two the least", x.away(2, 1), 1);
        Check.due("not the other two", x.away(1, 1), Check.NONE);
        agesAllTheSame();
        allMayHaveToStayAway();
    }

    /** What is raised gets no sand from its neighbour, and sheds some; what is not is lifted by that neighbour. */
    private static void allMayHaveToStayAway() {
        SandLedger x = new SandLedger();
        Check.pour(x, 10, 7);
        x.set(2, 0);
        x.visitor(0, 1);
        x.change(0, 2, 1);
        Check.due("the only one", x.away(0, 1), 1);
    }

    private static void agesAllTheSame() {
        SandLedger x = new SandLedger();
        x.visitor(3, 0);
        x.visitor(0, 0);
        x.set(1, 0);
        x.change(0, 5, 9);
        x.change(0, 4, 9);
        x.set(0, 9);
        Check.due("a boy who stays away grows older", x.away(0, 1), Check.NONE);
        x.change(0, 5, 8);
        Check.due("a boy not yet so old", x.away(0, 1), 0);
        x.sand(0, 8);
        x.sand(1, 8);
        x.sand(2, 8);
        x.change(0, 5, 9);
        x.set(0, 0);
        Check.due("stands now", x.away(0, 0), 0);
        Check.due("a day older, whoever stays away", x.away(0, 1), Check.NONE);
    }

    private static void promise23Fits() {
        SandLedger x = new SandLedger();
        Check.due("fits(-1, ..)", x.fits(-1, 0, 0), Check.BEYOND);
        Check.due("fits(4, ..)", x.fits(4, 0, 0), Check.BEYOND);
        Check.due("missing before no such visitor", x.fits(0, 0, 0), Check.MISSING);
        Check.fill(x, 0, 8);
        Check.due("no such visitor", x.fits(0, 0, 0), Check.BEYOND);
        x.visitor(0, 3);
        Check.due("nothing told", x.fits(0, 0, 1), 0xffff);
        Check.due("fits(0, -1, 0)", x.fits(0, -1, 0), Check.BEYOND);
        Check.due("fits(0, 0, -1)", x.fits(0, 0, -1), Check.BEYOND);
        Check.due("fits(0, 0, 21)", x.fits(0, 0, 21), Check.BEYOND);
        Check.fill(x, 0, 8, -1, 8);
        Check.due("cell 1 is 8", x.fits(0, 0, 20), 3);
        Check.due("cell 1 is not yet 8", x.fits(0, 0, 0), 0);
        Check.fill(x, 1, 16, -1, 5);
        Check.due("cell 1 is 5", x.fits(1, 0, 1), 0xfffc);
        Check.fill(x, 2, 32, -1, 5, -1, -1, 8);
        Check.due("cell 1 is 5 and cell 4 is 8", x.fits(2, 0, 1), 0b11100);
        int[] much = new int[40];
        java.util.Arrays.fill(much, 5);
        much[13] = 8;
        much[14] = 8;
        much[15] = 8;
        Check.fill(x, 3, 8, much);
        Check.due("beyond 16 nothing is asked", x.fits(3, 0, 1), 1 << 13);
        x.write(3, 15, 5);
        Check.due("the last cell is asked", x.fits(3, 0, 1), 0);
        Check.due("nothing changes", x.of(0, 1), 3);
        Check.due("no day", x.count(0), 0);
        Check.fill(x, 0, 8, -2);
        Check.due("only -1 is any", x.fits(0, 0, 0), 0);
    }

    private static void promise24Kinds() {
        SandLedger x = new SandLedger();
        Check.due("kinds(-1, ..)", x.kinds(-1, 0, 0), Check.BEYOND);
        Check.due("kinds(4, ..)", x.kinds(4, 0, 0), Check.BEYOND);
        Check.due("missing before no such visitor", x.kinds(0, 0, 0), Check.MISSING);
        Check.fill(x, 0, 8);
        Check.due("no such visitor", x.kinds(0, 0, 0), Check.BEYOND);
        x.visitor(5, 3);
        x.set(2, 6);
        Check.due("nothing told", x.kinds(0, 0, 1), 0x7f);
        Check.fill(x, 0, 8, -1, -1, -1, 8);
        Check.due("cell 3 is 8", x.kinds(0, 0, 1), 1);
        Check.due("cell 3 is 8 later", x.kinds(0, 0, 20), 1 | 32);
        Check.fill(x, 0, 8, -1, -1, -1, 10);
        Check.due("cell 3 is 10", x.kinds(0, 0, 1), 2 | 8);
        Check.fill(x, 0, 8, -1, -1, -1, 0);
        Check.due("cell 3 is 0", x.kinds(0, 0, 1), 16);
        Check.fill(x, 0, 8, -1, 6, -1, -1, 6);
        Check.due("cells 1 and 4 are 6", x.kinds(0, 0, 1), 64);
        Check.due("kinds(0, 1, 0)", x.kinds(0, 1, 0), Check.BEYOND);
        Check.due("kinds(0, 0, -1)", x.kinds(0, 0, -1), Check.BEYOND);
        Check.due("kinds(0, 0, 21)", x.kinds(0, 0, 21), Check.BEYOND);
        Check.due("kind is as it was", x.of(0, 0), 5);
    }

    private static int drawn(int z) {
        return z * 1103515245 + 12345;
    }

    private static void promise25Comings() {
        SandLedger x = new SandLedger();
        Check.due("comings(0)", x.comings(0), Check.BEYOND);
        Check.due("comings(21)", x.comings(21), Check.BEYOND);
        Check.due("comings(-1)", x.comings(-1), Check.BEYOND);
        Check.due("no draw", x.count(6), 1);
        Check.due("nobody comes", x.comings(1), 16);
        Check.due("two draws all the same", x.count(6), drawn(drawn(1)));
        Check.due("a day", x.count(0), 1);
        x.comings(20);
        Check.due("20 days more", x.count(0), 21);
        for (int v = 0; v < 8; v++) {
            x.visitor(4, v);
            x.change(v, 4, 9);
        }
        x.set(1, 0);
        x.go(60);
        x.go(1);
        Check.pour(x, 9, 9, 9, 9, 9, 9, 9, 9, 9, 9, 9, 9, 9, 9, 9, 9);
        x.seed(-5);
        int first = drawn(-5);
        int second = drawn(first);
        int visitor = (first >>> 8) % 8;
        int from = (second >>> 8) % 16;
        int wide = Math.min(3, 16 - from);
        Check.due("day", x.count(0), 82);
        int built = x.of(visitor, 6);
        Check.due("one digs", x.comings(1), Math.max(from, 16 - from - wide));
        Check.due("its from", x.of(visitor, 1), from);
        Check.due("its shape", x.cell(from, 0), 0);
        Check.due("built", x.of(visitor, 6), built + 1);
        Check.due("age grows by the day alone", x.of(visitor, 5), 62);
        Check.due("z", x.count(6), second);
        comersComeOnDaysOfComingsToo();
    }

    private static void comersComeOnDaysOfComingsToo() {
        SandLedger x = new SandLedger();
        x.visitor(5, 9);
        x.change(0, 4, 1);
        x.seed(3);
        int second = drawn(drawn(3));
        Check.due("nobody is drawn", (drawn(3) >>> 8) % 8 == 0 ? 1 : 0, 0);
        x.comings(1);
        Check.due("it came all the same", x.cell(9, 0), 6);
        Check.due("its from stays", x.of(0, 1), 9);
        Check.due("z", x.count(6), second);
    }

    private static void promise26Odds() {
        SandLedger x = new SandLedger();
        Check.due("all: above", x.odds(15, 0), 1);
        Check.due("all: below", x.odds(15, 1), 1);
        x.sand(0, 4);
        Check.due("15 of 16, none: above", x.odds(0, 0), 1);
        Check.due("15 of 16, none: below", x.odds(0, 1), 1);
        Check.due("15 of 16, once: above", x.odds(1, 0), 15);
        Check.due("15 of 16, once: below", x.odds(1, 1), 16);
        Check.due("15 of 16, 15 times: above", x.odds(15, 0), 437893890380859375L);
        Check.due("15 of 16, 15 times: below", x.odds(15, 1), 1L << 60);
        for (int cell = 0; cell < 16; cell++) {
            x.sand(cell, cell < 12 ? 5 : 0);
        }
        Check.due("12 of 16, twice: above", x.odds(2, 0), 9);
        Check.due("12 of 16, twice: below", x.odds(2, 1), 16);
        for (int cell = 0; cell < 16; cell++) {
            x.sand(cell, cell == 7 ? 30 : 0);
        }
        Check.due("1 of 16, 15 times: above", x.odds(15, 0), 1);
        Check.due("1 of 16, 15 times: below", x.odds(15, 1), 1L << 60);
        x.sand(7, 0);
        Check.due("no cell: above", x.odds(3, 0), 0);
        Check.due("no cell: below", x.odds(3, 1), 1);
        Check.due("no cell, none: above", x.odds(0, 0), 1);
        Check.due("no cell, none: below", x.odds(0, 1), 1);
        Check.due("no draw", x.count(6), 1);
        Check.due("odds(-1, 0)", x.odds(-1, 0), Check.BEYOND);
        Check.due("odds(16, 0)", x.odds(16, 0), Check.BEYOND);
        Check.due("odds(0, -1)", x.odds(0, -1), Check.BEYOND);
        Check.due("odds(0, 2)", x.odds(0, 2), Check.BEYOND);
        Check.due("counted", x.status(0), 4);
    }

    private static void promise27Seed() {
        SandLedger x = new SandLedger();
        Check.due("seed(-1000001)", x.seed(-1000001), 1);
        Check.due("what it was is no finding", x.seed(Integer.MIN_VALUE), -1000001);
        Check.due("seed(0)", x.seed(0), Integer.MIN_VALUE);
        Check.due("z", x.count(6), 0);
        Check.due("status(-1)", x.status(-1), 0);
    }
}
