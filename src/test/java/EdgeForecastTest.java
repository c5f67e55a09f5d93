/** The edges that promises 11 to 27 name, a test for each sentence. */
public final class EdgeForecastTest {
    private static final int VISITOR = 0;
    private static final int BOY = 3;
    private static final int DIGGER = 4;
    private static final int TRAVELLER = 5;

    public static void main(String[] args) {
        promise11Edges();
        promise11IsWhatGoBrings();
        promise12Edges();
        promise12IsWhatGoBrings();
        promise12Built9999AtMost();
        promise13Edges();
        promise13Behind0And100Days();
        promise14Edges();
        promise14Behind0And100Days();
        promise14NoRoadAtAll();
        promise15Edges();
        promise15OneAndTheSame();
        promise15Behind0And100Days();
        promise15NotOnTheSameDay();
        promise16Behind0And100Days();
        promise16OnlyTells();
        promise17Edges();
        promise17Behind0And40Days();
        promise17LeastOfSeveral();
        promise17FirstAndLastCell();
        promise18Edges();
        promise18Behind0And40Days();
        promise18WidestAndNarrowest();
        promise18Built9999();
        promise19Edges();
        promise19Behind0And40Days();
        promise19GreatestAndLeast();
        promise20Edges();
        promise20Behind0And40Days();
        promise20LeastAndLastKind();
        promise21Edges();
        promise21GreatestAndLeast();
        promise21BrideMovesLessInWind();
        promise21Behind0And40Days();
        promise22Edges();
        promise22NobodyAndEverybody();
        promise22Behind0And12Days();
        promise22OfSeveralTheLeast();
        promise23Edges();
        promise23OrderOfFindings();
        promise23Behind0And20Days();
        promise23First16Numbers();
        promise23EmptyAndFullSets();
        promise24Edges();
        promise24OrderOfFindings();
        promise24Behind0And20Days();
        promise24EmptyAndFullSets();
        promise25Edges();
        promise25IsComeAndADay();
        promise25DrawsWrapAround();
        promise25VisitorsThereAndNot();
        promise25FirstAndLastCell();
        promise26Edges();
        promise26NoneAndAll();
        promise26LowestTerms();
        promise26LongestNumbers();
        promise27AnyInt();
        lookingAheadChangesNothing();
        Check.end("EdgeForecastTest");
    }

    /** A traveller who comes on days 0, 9, 18, .. and each time puts one up at a cell, without wind. */
    private static SandLedger slow(int cell, int high) {
        SandLedger x = new SandLedger();
        x.set(1, 0);
        x.visitor(TRAVELLER, cell);
        x.change(0, 3, high);
        x.change(0, 4, 9);
        return x;
    }

    private static void sheetOf(SandLedger x, int s, int n, int number) {
        x.sheet(s, 8, n);
        for (int i = 0; i < n; i++) {
            x.write(s, i, number);
        }
    }

    private static void promise11Edges() {
        Scene.edges("promise 11: cell", (x, v) -> x.high(v, 3), 0, 15);
        Scene.edges("promise 11: n", (x, v) -> x.high(15, v), 0, 100);
    }

    private static void promise11IsWhatGoBrings() {
        SandLedger x = Scene.busy();
        SandLedger later = Scene.busy();
        later.go(60);
        later.go(40);
        for (int cell = 0; cell < 16; cell++) {
            Check.due("promise 11: behind 0 days", x.high(cell, 0), x.cell(cell, 0));
            Check.due("promise 11: behind 100 days", x.high(cell, 100), later.cell(cell, 0));
        }
        x = slow(3, 20);
        Check.due("promise 11: behind 99 days", x.high(3, 99), 5 + 11);
        Check.due("promise 11: behind 100 days", x.high(3, 100), 5 + 12);
    }

    private static void promise12Edges() {
        Scene.edges("promise 12: visitor of seven", (x, v) -> x.built(v, 3), 0, 6);
        Scene.edges("promise 12: visitor of eight", Scene::crowded, (x, v) -> x.built(v, 3), 0, 7);
        Scene.edges("promise 12: n", (x, v) -> x.built(6, v), 0, 100);
    }

    private static void promise12IsWhatGoBrings() {
        SandLedger x = Scene.busy();
        SandLedger later = Scene.busy();
        later.go(60);
        later.go(40);
        for (int visitor = 0; visitor < 7; visitor++) {
            Check.due("promise 12: behind 0 days", x.built(visitor, 0), x.of(visitor, 6));
            Check.due("promise 12: behind 100 days", x.built(visitor, 100), later.of(visitor, 6));
        }
        x = slow(3, 5);
        Check.due("promise 12: behind 99 days", x.built(0, 99), 11);
        Check.due("promise 12: behind 100 days", x.built(0, 100), 12);
    }

    private static void promise12Built9999AtMost() {
        SandLedger x = slow(3, 5);
        x.change(0, 6, 9988);
        Check.due("promise 12: 9999 on the last coming but one", x.built(0, 99), 9999);
        Check.due("promise 12: 9999 still", x.built(0, 100), 9999);
        x.change(0, 6, 9999);
        Check.due("promise 12: 9999 from the begin", x.built(0, 100), 9999);
        Check.due("promise 12: 9999 now", x.built(0, 0), 9999);
    }

    private static void promise13Edges() {
        Scene.edges("promise 13: visitor of seven", (x, v) -> x.stands(v), 0, 6);
        Scene.edges("promise 13: visitor of eight", Scene::crowded, (x, v) -> x.stands(v), 0, 7);
        Check.due("promise 13: nobody is there", new SandLedger().stands(0), Check.BEYOND);
    }

    private static void promise13Behind0And100Days() {
        Check.due("promise 13: now", slow(3, 5).stands(0), 0);
        Check.due("promise 13: behind a day", slow(3, 6).stands(0), 1);
        Check.due("promise 13: behind 100 days", slow(3, 17).stands(0), 100);
        Scene.refused("promise 13: behind 109 days", () -> slow(3, 18), x -> x.stands(0), Check.NONE);
        Scene.refused("promise 13: behind 101 days", () -> {
            SandLedger x = slow(3, 18);
            x.go(8);
            return x;
        }, x -> x.stands(0), Check.NONE);
    }

    private static void promise14Edges() {
        Scene.edges("promise 14: v", (x, v) -> x.road(v), 0, 16);
    }

    private static void promise14Behind0And100Days() {
        SandLedger x = slow(3, 20);
        x.sand(3, 0);
        Check.due("promise 14: what is there", x.road(12), 0);
        Check.due("promise 14: one more than that", x.road(13), 37);
        Check.due("promise 14: all of it", x.road(16), 37);
        Check.due("promise 14: behind 100 days", boyBesideAGap(1).road(16), 100);
        Check.due("promise 14: behind 99 days", boyBesideAGap(2).road(16), 99);
        Scene.refused("promise 14: behind 101 days", () -> boyBesideAGap(0), y -> y.road(16), Check.NONE);
        Check.due("promise 14: the road that is there", boyBesideAGap(0).road(12), 0);
    }

    /** Only when he is 100 days old does he raise cell 2 to 11, from where one slides over into cell 3. */
    private static SandLedger boyBesideAGap(int age) {
        SandLedger x = new SandLedger();
        x.set(2, 4);
        x.sand(3, 4);
        x.visitor(BOY, 2);
        x.change(0, 2, 1);
        x.change(0, 3, 0);
        x.change(0, 4, 1);
        x.change(0, 5, age);
        return x;
    }

    private static void promise14NoRoadAtAll() {
        SandLedger x = new SandLedger();
        Check.level(x, 4);
        Check.due("promise 14: 0 or more", x.road(0), 0);
        Check.due("promise 14: 1 or more", x.road(1), Check.NONE);
        Check.level(x, 5);
        Check.due("promise 14: 16 or more", x.road(16), 0);
    }

    private static void promise15Edges() {
        Scene.edges("promise 15: a", (x, v) -> x.both(v, 3), 0, 6);
        Scene.edges("promise 15: b", (x, v) -> x.both(3, v), 0, 6);
        Scene.edges("promise 15: a of eight", Scene::crowded, (x, v) -> x.both(v, 3), 0, 7);
        Scene.edges("promise 15: b of eight", Scene::crowded, (x, v) -> x.both(3, v), 0, 7);
    }

    private static void promise15OneAndTheSame() {
        for (int visitor = 0; visitor < 7; visitor++) {
            int same = visitor;
            Scene.refused("promise 15: one and the same", x -> x.both(same, same), Check.BEYOND);
        }
    }

    private static SandLedger slowBesideOneThatStands(int high) {
        SandLedger x = slow(3, high);
        x.visitor(VISITOR, 10);
        x.change(1, 3, 0);
        return x;
    }

    private static void promise15Behind0And100Days() {
        Check.due("promise 15: now", slowBesideOneThatStands(5).both(0, 1), 0);
        Check.due("promise 15: behind 100 days", slowBesideOneThatStands(17).both(0, 1), 100);
        Check.due("promise 15: behind 100 days, the other way round", slowBesideOneThatStands(17).both(1, 0), 100);
        Scene.refused("promise 15: behind 101 days", () -> {
            SandLedger x = slowBesideOneThatStands(18);
            x.go(8);
            return x;
        }, x -> x.both(1, 0), Check.NONE);
    }

    /** Each stands at times, but one digs away what the other one puts up. */
    private static void promise15NotOnTheSameDay() {
        SandLedger x = new SandLedger();
        x.set(1, 0);
        x.visitor(VISITOR, 3);
        x.visitor(DIGGER, 3);
        x.change(0, 2, 1);
        x.change(0, 4, 2);
        x.change(1, 4, 3);
        x.go(1);
        Check.due("promise 15: one stands now", x.stands(1), 0);
        Check.due("promise 15: the other one later", x.stands(0), 2);
        Check.due("promise 15: both never", x.both(0, 1), Check.NONE);
    }

    private static SandLedger slowWithStore(int store) {
        SandLedger x = slow(3, 20);
        x.set(0, store);
        return x;
    }

    private static void promise16Behind0And100Days() {
        Check.due("promise 16: now", slowWithStore(0).empty(), 0);
        Check.due("promise 16: behind a day", slowWithStore(1).empty(), 1);
        Check.due("promise 16: behind 100 days", slowWithStore(12).empty(), 100);
        Scene.refused("promise 16: behind 109 days", () -> slowWithStore(13), x -> x.empty(), Check.NONE);
        Scene.refused("promise 16: behind 101 days", () -> {
            SandLedger x = slowWithStore(100);
            x.go(8);
            x.set(0, 12);
            return x;
        }, x -> x.empty(), Check.NONE);
        Check.due("promise 16: nobody comes", new SandLedger().empty(), Check.NONE);
    }

    private static void promise16OnlyTells() {
        SandLedger x = slowWithStore(12);
        x.empty();
        Check.due("promise 16: store", x.count(3), 12);
        Check.due("promise 16: day", x.count(0), 0);
        Check.due("promise 16: age", x.of(0, 5), 0);
    }

    private static void promise17Edges() {
        Scene.edges("promise 17: visitor of seven", (x, v) -> x.fromFor(v, 2), 0, 6);
        Scene.edges("promise 17: visitor of eight", Scene::crowded, (x, v) -> x.fromFor(v, 2), 0, 7);
        Scene.edges("promise 17: n", (x, v) -> x.fromFor(6, v), 0, 40);
    }

    /** Day 6: the next comings are on days 9, 18, 27, 36, and 45, the last of 40 days. */
    private static SandLedger slowOnDay6(int cell, int sand, int high) {
        SandLedger x = slow(cell, high);
        x.go(6);
        x.sand(cell, sand);
        return x;
    }

    private static void promise17Behind0And40Days() {
        SandLedger x = slowOnDay6(4, 0, 5);
        x.change(0, 1, 9);
        Check.due("promise 17: behind 0 days", x.fromFor(0, 0), 0);
        Check.due("promise 17: behind 39 days", x.fromFor(0, 39), 0);
        Check.due("promise 17: behind 40 days", x.fromFor(0, 40), 4);
    }

    private static void promise17LeastOfSeveral() {
        int[] least = {2, 2, 4, 2, 0, 4, 3};
        for (int kind = 0; kind <= 6; kind++) {
            SandLedger x = new SandLedger();
            x.set(1, 0);
            x.sand(4, 4);
            x.visitor(kind, 15);
            x.change(0, 3, 10);
            Check.due("promise 17: least of kind " + kind, x.fromFor(0, 1), least[kind]);
            Check.level(x, 0);
            Check.due("promise 17: none does better", x.fromFor(0, 0), 0);
        }
    }

    private static void promise17FirstAndLastCell() {
        SandLedger x = new SandLedger();
        x.visitor(TRAVELLER, 7);
        x.sand(15, 4);
        Check.due("promise 17: the last cell", x.fromFor(0, 1), 15);
        x.sand(15, 5);
        x.sand(0, 4);
        Check.due("promise 17: the first cell", x.fromFor(0, 1), 0);
    }

    private static void promise18Edges() {
        Scene.edges("promise 18: visitor of seven", (x, v) -> x.wideFor(v, 0, 2), 0, 6);
        Scene.edges("promise 18: visitor of eight", Scene::crowded, (x, v) -> x.wideFor(v, 0, 2), 0, 7);
        Scene.edges("promise 18: v", (x, v) -> x.wideFor(6, v, 2), 0, 9999);
        Scene.edges("promise 18: n", (x, v) -> x.wideFor(6, 0, v), 0, 40);
        Scene.refused("promise 18: beyond before none", x -> x.wideFor(6, 9999, 41), Check.BEYOND);
        Scene.refused("promise 18: none", x -> x.wideFor(6, 9999, 40), Check.NONE);
    }

    private static void promise18Behind0And40Days() {
        SandLedger x = slowOnDay6(4, 5, 10);
        Check.due("promise 18: nothing asked behind 0 days", x.wideFor(0, 0, 0), 8);
        Check.due("promise 18: too much asked behind 0 days", x.wideFor(0, 1, 0), Check.NONE);
        Check.due("promise 18: behind 39 days", x.wideFor(0, 1, 39), Check.NONE);
        Check.due("promise 18: behind 40 days", x.wideFor(0, 1, 40), 8);
        Check.due("promise 18: twice behind 40 days", x.wideFor(0, 2, 40), Check.NONE);
    }

    private static void promise18WidestAndNarrowest() {
        for (int wide = 0; wide <= 9; wide++) {
            SandLedger x = new SandLedger();
            x.set(1, 0);
            x.visitor(VISITOR, 2);
            x.set(0, 3 * wide);
            int due = wide == 0 ? Check.NONE : Math.min(8, wide);
            Check.due("promise 18: sand for " + wide, x.wideFor(0, 1, 40), due);
        }
        SandLedger x = new SandLedger();
        x.set(1, 0);
        x.visitor(VISITOR, 14);
        x.set(0, 6);
        Check.due("promise 18: beyond the end no more is needed", x.wideFor(0, 1, 40), 8);
        x.set(0, 5);
        Check.due("promise 18: one less", x.wideFor(0, 1, 40), 1);
    }

    private static void promise18Built9999() {
        SandLedger x = slow(3, 5);
        x.change(0, 6, 9999);
        Check.due("promise 18: 9999 now", x.wideFor(0, 9999, 0), 8);
        Check.due("promise 18: 9999 later", x.wideFor(0, 9999, 40), 8);
        x.change(0, 6, 9998);
        Check.due("promise 18: not yet", x.wideFor(0, 9999, 0), Check.NONE);
        Check.due("promise 18: behind a day", x.wideFor(0, 9999, 1), 8);
    }

    private static void promise19Edges() {
        Scene.edges("promise 19: visitor of seven", (x, v) -> x.eachFor(v, 2), 0, 6);
        Scene.edges("promise 19: visitor of eight", Scene::crowded, (x, v) -> x.eachFor(v, 2), 0, 7);
        Scene.edges("promise 19: n", (x, v) -> x.eachFor(6, v), 0, 40);
    }

    private static void promise19Behind0And40Days() {
        SandLedger x = slowOnDay6(4, 5, 10);
        Check.due("promise 19: behind 0 days", x.eachFor(0, 0), Check.NONE);
        Check.due("promise 19: behind 39 days", x.eachFor(0, 39), 8);
        Check.due("promise 19: behind 40 days", x.eachFor(0, 40), 9);
        Check.due("promise 19: stands now", slowOnDay6(4, 10, 10).eachFor(0, 0), 9);
    }

    private static void promise19GreatestAndLeast() {
        SandLedger x = slow(4, 20);
        Check.due("promise 19: every day", x.eachFor(0, 15), 1);
        Check.due("promise 19: not even so", x.eachFor(0, 14), Check.NONE);
        Scene.refused("promise 19: none", () -> slow(4, 20), y -> y.eachFor(0, 14), Check.NONE);
        x.change(0, 3, 5);
        Check.due("promise 19: as seldom as can be", x.eachFor(0, 40), 9);
    }

    private static void promise20Edges() {
        Scene.edges("promise 20: visitor of seven", (x, v) -> x.kindFor(v, 2), 0, 6);
        Scene.edges("promise 20: visitor of eight", Scene::crowded, (x, v) -> x.kindFor(v, 2), 0, 7);
        Scene.edges("promise 20: n", (x, v) -> x.kindFor(6, v), 0, 40);
    }

    /** Only as a boy of 50 days, on the last of 40, would he raise a cell to 5. */
    private static void promise20Behind0And40Days() {
        SandLedger x = new SandLedger();
        x.set(1, 0);
        x.sand(7, 4);
        x.visitor(TRAVELLER, 7);
        x.change(0, 2, 1);
        x.change(0, 3, 0);
        x.change(0, 4, 1);
        x.change(0, 5, 11);
        Check.due("promise 20: behind 0 days", x.kindFor(0, 0), 0);
        Check.due("promise 20: behind 39 days", x.kindFor(0, 39), 0);
        Check.due("promise 20: behind 40 days", x.kindFor(0, 40), BOY);
    }

    private static void promise20LeastAndLastKind() {
        SandLedger x = new SandLedger();
        x.set(1, 0);
        x.visitor(TRAVELLER, 8);
        x.change(0, 2, 1);
        x.change(0, 3, 6);
        Check.due("promise 20: all are as good", x.kindFor(0, 0), 0);
        x.sand(9, 4);
        Check.due("promise 20: the last kind", x.kindFor(0, 1), 6);
        x.sand(8, 4);
        x.sand(9, 5);
        Check.due("promise 20: the first kind", x.kindFor(0, 1), 0);
    }

    private static void promise21Edges() {
        Scene.edges("promise 21: visitor of seven", (x, v) -> x.windFor(v, 2), 0, 6);
        Scene.edges("promise 21: visitor of eight", Scene::crowded, (x, v) -> x.windFor(v, 2), 0, 7);
        Scene.edges("promise 21: n", (x, v) -> x.windFor(6, v), 0, 40);
    }

    /** A heap that loses two in each gust, until it is lower than 20. */
    private static SandLedger heap(int sand) {
        SandLedger x = slow(7, 20);
        x.set(2, 0);
        x.go(1);
        x.sand(7, sand);
        return x;
    }

    private static void promise21GreatestAndLeast() {
        for (int sand = 20; sand <= 30; sand++) {
            Check.due("promise 21: heap of " + sand, heap(sand).windFor(0, 1), (sand - 20) / 2);
        }
        Check.due("promise 21: wind is as it was", heap(30).set(1, 0), 0);
        Scene.refused("promise 21: none", () -> heap(19), x -> x.windFor(0, 1), Check.NONE);
        Check.due("promise 21: no more than 5", heap(30).windFor(0, 0), 5);
    }

    /** A bride on cells 7 and 8, which are to be 12 high, in a pit where nothing slides. */
    private static SandLedger bride(int sand, int next) {
        SandLedger x = new SandLedger();
        x.set(2, 9);
        Check.level(x, 12);
        x.sand(7, sand);
        x.sand(8, next);
        x.visitor(6, 7);
        x.change(0, 2, 1);
        x.change(0, 3, 20);
        return x;
    }

    private static void promise21BrideMovesLessInWind() {
        for (int lacks = 7; lacks <= 12; lacks++) {
            Check.due("promise 21: a bride, " + lacks + " lack", bride(12 - lacks, 12).windFor(0, 1), 12 - lacks);
        }
        Check.due("promise 21: a bride, 6 lack", bride(6, 12).windFor(0, 1), 5);
        Check.due("promise 21: a bride, 13 lack", bride(0, 11).windFor(0, 1), Check.NONE);
    }

    private static void promise21Behind0And40Days() {
        SandLedger x = slowOnDay6(4, 5, 10);
        x.set(2, 9);
        Check.due("promise 21: behind 0 days", x.windFor(0, 0), Check.NONE);
        Check.due("promise 21: behind 39 days", x.windFor(0, 39), Check.NONE);
        Check.due("promise 21: behind 40 days", x.windFor(0, 40), 5);
    }

    private static void promise22Edges() {
        Scene.edges("promise 22: visitor of seven", (x, v) -> x.away(v, 2), 0, 6);
        Scene.edges("promise 22: visitor of eight", Scene::crowded, (x, v) -> x.away(v, 1), 0, 7);
        Scene.edges("promise 22: n", (x, v) -> x.away(6, v), 0, 12);
    }

    /** Cell 1 stands at 8 only if its neighbour's sand slides over, which all eight hinder: one raises, seven dig. */
    private static void promise22NobodyAndEverybody() {
        SandLedger x = new SandLedger();
        Check.pour(x, 10, 7);
        x.set(2, 0);
        for (int visitor = 0; visitor < 8; visitor++) {
            x.visitor(visitor == 0 ? VISITOR : DIGGER, 1);
            x.change(visitor, 2, 1);
        }
        Check.due("promise 22: everybody", x.away(0, 1), 255);
        for (int visitor = 0; visitor < 8; visitor++) {
            x.change(visitor, 4, 9);
        }
        x.go(1);
        Check.pour(x, 10, 7, 5);
        Check.due("promise 22: nobody, as nobody comes", x.away(0, 1), 0);
        Check.due("promise 22: nobody, as it stands now", heap(20).away(0, 0), 0);
        Scene.refused("promise 22: none", () -> heap(19), y -> y.away(0, 0), Check.NONE);
        Scene.refused("promise 22: beyond before none", () -> heap(19), y -> y.away(0, 13), Check.BEYOND);
    }

    private static void promise22Behind0And12Days() {
        SandLedger x = slow(4, 7);
        x.go(7);
        x.sand(4, 5);
        Check.due("promise 22: behind 0 days", x.away(0, 0), Check.NONE);
        Check.due("promise 22: behind 11 days", x.away(0, 11), Check.NONE);
        Check.due("promise 22: behind 12 days", x.away(0, 12), 0);
    }

    private static void promise22OfSeveralTheLeast() {
        SandLedger x = new SandLedger();
        x.set(0, 18);
        x.visitor(VISITOR, 0);
        x.visitor(VISITOR, 5);
        x.visitor(VISITOR, 10);
        Check.due("promise 22: one of two", x.away(2, 1), 1);
        Check.due("promise 22: none need stay away", x.away(1, 1), 0);
        x.set(0, 9);
        Check.due("promise 22: both", x.away(2, 1), 3);
        x.set(0, 8);
        Check.due("promise 22: not even so", x.away(2, 1), Check.NONE);
    }

    private static void promise23Edges() {
        Scene.edges("promise 23: sheet", (x, v) -> x.fits(v, 0, 2), 0, 3);
        Scene.edges("promise 23: visitor of seven", (x, v) -> x.fits(0, v, 2), 0, 6);
        Scene.edges("promise 23: visitor of eight", Scene::crowded, (x, v) -> x.fits(2, v, 2), 0, 7);
        Scene.edges("promise 23: n", (x, v) -> x.fits(2, 6, v), 0, 20);
    }

    private static void promise23OrderOfFindings() {
        Scene.refused("promise 23: no such sheet before all", x -> x.fits(4, 7, 21), Check.BEYOND);
        Scene.refused("promise 23: missing before no such visitor", x -> x.fits(3, 7, 2), Check.MISSING);
        Scene.refused("promise 23: missing before n", x -> x.fits(3, 0, 21), Check.MISSING);
        Scene.refused("promise 23: missing", x -> x.fits(3, 0, 2), Check.MISSING);
    }

    /** Day 8: the next comings are on days 9, 18, and 27, the last of 20 days. */
    private static SandLedger slowOnDay8(int cell) {
        SandLedger x = slow(cell, 20);
        x.go(8);
        x.sand(cell, 5);
        sheetOf(x, 0, 16, -1);
        x.write(0, 2, 8);
        return x;
    }

    private static void promise23Behind0And20Days() {
        SandLedger x = slowOnDay8(9);
        Check.due("promise 23: behind 0 days", x.fits(0, 0, 0), 0);
        Check.due("promise 23: behind 19 days", x.fits(0, 0, 19), 0);
        Check.due("promise 23: behind 20 days", x.fits(0, 0, 20), 1 << 2);
        x.sand(2, 8);
        Check.due("promise 23: it is so now", x.fits(0, 0, 0), 0xffff);
        Check.due("promise 23: it would be more at cell 2", x.fits(0, 0, 20), 0xfffb);
    }

    private static void promise23First16Numbers() {
        SandLedger x = slow(3, 6);
        sheetOf(x, 0, 17, 5);
        x.write(0, 15, 6);
        x.write(0, 16, 31);
        Check.due("promise 23: the 17th is not asked", x.fits(0, 0, 1), 1 << 15);
        sheetOf(x, 0, 40, 5);
        Check.due("promise 23: none of all is 6", x.fits(0, 0, 1), 0);
        x.write(0, 15, -1);
        Check.due("promise 23: the 16th is any", x.fits(0, 0, 1), 1 << 15);
        sheetOf(x, 0, 15, 5);
        Check.due("promise 23: the 16th is not there", x.fits(0, 0, 1), 1 << 15);
        sheetOf(x, 0, 1, 6);
        Check.due("promise 23: the first alone", x.fits(0, 0, 1), 1);
    }

    private static void promise23EmptyAndFullSets() {
        SandLedger x = slow(3, 6);
        x.sheet(0, 32, 0);
        Check.due("promise 23: no number", x.fits(0, 0, 20), 0xffff);
        sheetOf(x, 0, 40, -1);
        Check.due("promise 23: all are any", x.fits(0, 0, 20), 0xffff);
        x.write(0, 0, 31);
        Check.due("promise 23: 31 is never so", x.fits(0, 0, 20), 0);
        x.write(0, 0, -2);
        Check.due("promise 23: -2 is not any", x.fits(0, 0, 20), 0);
        Check.due("promise 23: no finding", x.status(-1), 0);
    }

    private static void promise24Edges() {
        Scene.edges("promise 24: sheet", (x, v) -> x.kinds(v, 0, 2), 0, 3);
        Scene.edges("promise 24: visitor of seven", (x, v) -> x.kinds(0, v, 2), 0, 6);
        Scene.edges("promise 24: visitor of eight", Scene::crowded, (x, v) -> x.kinds(2, v, 2), 0, 7);
        Scene.edges("promise 24: n", (x, v) -> x.kinds(2, 6, v), 0, 20);
    }

    private static void promise24OrderOfFindings() {
        Scene.refused("promise 24: no such sheet before all", x -> x.kinds(4, 7, 21), Check.BEYOND);
        Scene.refused("promise 24: missing before no such visitor", x -> x.kinds(3, 7, 2), Check.MISSING);
        Scene.refused("promise 24: missing before n", x -> x.kinds(3, 0, 21), Check.MISSING);
        Scene.refused("promise 24: missing", x -> x.kinds(3, 0, 2), Check.MISSING);
    }

    private static void promise24Behind0And20Days() {
        SandLedger x = slowOnDay8(2);
        x.change(0, 0, VISITOR);
        Check.due("promise 24: behind 0 days", x.kinds(0, 0, 0), 0);
        Check.due("promise 24: behind 19 days", x.kinds(0, 0, 19), 0);
        Check.due("promise 24: behind 20 days", x.kinds(0, 0, 20), 1 << TRAVELLER);
    }

    private static void promise24EmptyAndFullSets() {
        SandLedger x = slow(3, 6);
        x.sheet(0, 16, 0);
        Check.due("promise 24: no number", x.kinds(0, 0, 20), 127);
        sheetOf(x, 0, 40, -1);
        Check.due("promise 24: all are any", x.kinds(0, 0, 20), 127);
        x.write(0, 15, 31);
        Check.due("promise 24: 31 is never so", x.kinds(0, 0, 20), 0);
        x.write(0, 15, -1);
        x.write(0, 16, 31);
        Check.due("promise 24: the 17th is not asked", x.kinds(0, 0, 20), 127);
        Check.due("promise 24: no finding", x.status(-1), 0);
    }

    private static void promise25Edges() {
        Scene.edges("promise 25: n", (x, v) -> x.comings(v), 1, 20);
        SandLedger one = Scene.busy();
        SandLedger many = Scene.busy();
        for (int i = 0; i < 20; i++) {
            one.comings(1);
        }
        many.comings(20);
        Check.due("promise 25: 20 days", many.count(0), 25);
        Check.due("promise 25: 40 draws", many.count(6), one.count(6));
        for (int cell = 0; cell < 16; cell++) {
            Check.due("promise 25: 20 times are 20 times once", many.cell(cell, 0), one.cell(cell, 0));
        }
    }

    /** The next z told without ints that wrap around. */
    private static long next(long z) {
        return Math.floorMod(Math.floorMod(z, 1L << 32) * 1103515245L + 12345L, 1L << 32);
    }

    /** Those who come on that day come besides. */
    private static void promise25IsComeAndADay() {
        for (int seed = 0; seed < 40; seed++) {
            SandLedger x = Scene.busy();
            SandLedger byHand = Scene.busy();
            x.seed(seed);
            int road = x.comings(1);
            byHand.seed((int) next(next(seed)));
            int drawn = (int) (next(seed) / 256 % 8);
            if (drawn < 7) {
                byHand.change(drawn, 1, (int) (next(next(seed)) / 256 % 16));
                byHand.come(drawn);
            }
            Check.due("promise 25: road, z " + seed, road, byHand.go(1));
            Scene.same("promise 25: z " + seed, Scene.told(x), Scene.told(byHand));
        }
    }

    private static void promise25DrawsWrapAround() {
        for (int seed : new int[] {Integer.MIN_VALUE, Integer.MAX_VALUE, -1, 0, 1, 123456789, -1000001}) {
            SandLedger x = new SandLedger();
            for (int visitor = 0; visitor < 8; visitor++) {
                x.visitor(TRAVELLER, 7);
                x.change(visitor, 3, 0);
            }
            x.seed(seed);
            x.comings(1);
            long first = next(seed);
            long second = next(first);
            int drawn = (int) (first / 256 % 8);
            for (int visitor = 0; visitor < 8; visitor++) {
                long due = visitor == drawn ? second / 256 % 16 : 7;
                Check.due("promise 25: from, z " + seed, x.of(visitor, 1), due);
            }
            Check.due("promise 25: z behind " + seed, x.count(6), (int) second);
        }
    }

    /** Seeds by which each of the eight is drawn: without that many visitors nobody comes, but a day goes by. */
    private static void promise25VisitorsThereAndNot() {
        boolean[] seen = new boolean[8];
        for (int seed = 0; seed < 200; seed++) {
            int drawn = (int) (next(seed) / 256 % 8);
            seen[drawn] = true;
            SandLedger x = new SandLedger();
            for (int visitor = 0; visitor < 4; visitor++) {
                x.visitor(TRAVELLER, 7);
                x.change(visitor, 3, 0);
                x.change(visitor, 4, 9);
            }
            x.go(1);
            int built = x.now(6);
            x.seed(seed);
            x.comings(1);
            Check.due("promise 25: " + drawn + " of 4 comes", x.now(6), drawn < 4 ? built + 1 : built);
            Check.due("promise 25: a day", x.count(0), 2);
            Check.due("promise 25: two draws", x.count(6), (int) next(next(seed)));
        }
        for (int visitor = 0; visitor < 8; visitor++) {
            Check.holds("promise 25: a seed that draws " + visitor, seen[visitor]);
        }
    }

    private static void promise25FirstAndLastCell() {
        boolean[] seen = new boolean[16];
        for (int seed = 0; seed < 2000; seed++) {
            int drawn = (int) (next(seed) / 256 % 8);
            int from = (int) (next(next(seed)) / 256 % 16);
            if (drawn != 0 || seen[from]) {
                continue;
            }
            seen[from] = true;
            SandLedger x = slow(7, 20);
            x.go(1);
            x.seed(seed);
            x.comings(1);
            Check.due("promise 25: from " + from, x.of(0, 1), from);
            Check.due("promise 25: sand there", x.cell(from, 0), from == 7 ? 7 : 6);
        }
        Check.holds("promise 25: a seed that draws cell 0", seen[0]);
        Check.holds("promise 25: a seed that draws cell 15", seen[15]);
    }

    private static void promise26Edges() {
        Scene.edges("promise 26: n", (x, v) -> x.odds(v, 0), 0, 15);
        Scene.edges("promise 26: n, below the line", (x, v) -> x.odds(v, 1), 0, 15);
        Scene.edges("promise 26: what", (x, v) -> x.odds(15, v), 0, 1);
    }

    private static void odds(String name, int cells, int n, long above, long below) {
        SandLedger x = new SandLedger();
        for (int cell = 0; cell < 16; cell++) {
            x.sand(cell, cell < cells ? 5 : 4);
        }
        Check.due("promise 26: " + name + ": above", x.odds(n, 0), above);
        Check.due("promise 26: " + name + ": below", x.odds(n, 1), below);
    }

    private static void promise26NoneAndAll() {
        odds("no cell, no draw", 0, 0, 1, 1);
        odds("no cell, a draw", 0, 1, 0, 1);
        odds("no cell, 15 draws", 0, 15, 0, 1);
        odds("all cells, no draw", 16, 0, 1, 1);
        odds("all cells, a draw", 16, 1, 1, 1);
        odds("all cells, 15 draws", 16, 15, 1, 1);
        odds("some cells, no draw", 7, 0, 1, 1);
    }

    private static void promise26LowestTerms() {
        int[] above = {1, 1, 3, 1, 5, 3, 7, 1, 9, 5, 11, 3, 13, 7, 15};
        int[] below = {16, 8, 16, 4, 16, 8, 16, 2, 16, 8, 16, 4, 16, 8, 16};
        for (int cells = 1; cells <= 15; cells++) {
            odds(cells + " cells, a draw", cells, 1, above[cells - 1], below[cells - 1]);
            long squared = (long) above[cells - 1] * above[cells - 1];
            odds(cells + " cells, two draws", cells, 2, squared, (long) below[cells - 1] * below[cells - 1]);
        }
    }

    private static void promise26LongestNumbers() {
        odds("15 cells, 15 draws", 15, 15, 437893890380859375L, 1152921504606846976L);
        odds("14 cells, 15 draws", 14, 15, 4747561509943L, 35184372088832L);
        odds("13 cells, 15 draws", 13, 15, 51185893014090757L, 1152921504606846976L);
        odds("1 cell, 15 draws", 1, 15, 1, 1152921504606846976L);
        odds("8 cells, 15 draws", 8, 15, 1, 32768);
    }

    private static void promise27AnyInt() {
        SandLedger x = new SandLedger();
        int was = 1;
        for (int seed : new int[] {Integer.MIN_VALUE, Integer.MAX_VALUE, 0, -1, -1000001, -1000007, 1}) {
            Check.due("promise 27: what it was", x.seed(seed), was);
            Check.due("promise 27: what it is", x.count(6), seed);
            was = seed;
        }
        Check.due("promise 27: none is a finding", x.status(-1), 0);
    }

    private static void lookingAheadChangesNothing() {
        Scene.onlyTells("promise 11", x -> x.high(5, 100));
        Scene.onlyTells("promise 12", x -> x.built(6, 100));
        for (int visitor = 0; visitor < 7; visitor++) {
            int told = visitor;
            Scene.onlyTells("promise 13", x -> x.stands(told));
            Scene.onlyTells("promise 15", x -> x.both(told, (told + 1) % 7));
            Scene.onlyTells("promise 17", x -> x.fromFor(told, 40));
            Scene.onlyTells("promise 18", x -> x.wideFor(told, 1, 40));
            Scene.onlyTells("promise 19", x -> x.eachFor(told, 40));
            Scene.onlyTells("promise 20", x -> x.kindFor(told, 40));
            Scene.onlyTells("promise 21", x -> x.windFor(told, 40));
            Scene.onlyTells("promise 22", x -> x.away(told, 12));
            Scene.onlyTells("promise 23", x -> x.fits(0, told, 20));
            Scene.onlyTells("promise 24", x -> x.kinds(0, told, 20));
        }
        Scene.onlyTells("promise 14", x -> x.road(16));
        Scene.onlyTells("promise 16", x -> x.empty());
        Scene.onlyTells("promise 26", x -> x.odds(15, 0));
    }
}
