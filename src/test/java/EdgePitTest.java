/** The edges that the terms and promises 1 to 10 name, a test for each sentence. */
public final class EdgePitTest {
    private static final int VISITOR = 0;
    private static final int CHILD = 1;
    private static final int LOVER = 2;
    private static final int BOY = 3;
    private static final int DIGGER = 4;
    private static final int TRAVELLER = 5;
    private static final int BRIDE = 6;

    public static void main(String[] args) {
        promise1NothingIsThereYet();
        promise1ObjectsShareNothing();
        promise2Edges();
        promise2TellsWhatItWas();
        promise3Edges();
        promise3SetsEmptyAndFull();
        promise3CellsBesideTheSpan();
        promise4Edges();
        promise4EachHasItsOwnBounds();
        promise5Edges();
        promise5EighthAndNinth();
        promise5BeyondIsAskedBeforeFull();
        promise6Edges();
        promise6SpansAtTheEnds();
        promise6WidestAndNarrowestSpans();
        promise6QuotientsAreCut();
        promise6BoyRaises30AtMost();
        promise6DiggerRaises0WhateverElse();
        promise6MovesAtTheBoundsOfWind();
        promise6StandsExactly();
        promise6DiggersShapeStandsExactly();
        promise7Edges();
        promise7ChangesNoOtherTrait();
        promise8Edges();
        promise8MovesExactly();
        promise8StoreHasExactly();
        promise8StoreIsEmpty();
        promise8DiggerMovesExactly();
        promise8DiggerAtAFullStore();
        promise8DiggerAtAnEmptyStore();
        promise8Built9999AtMost();
        promise8NoAgeGrowsAndNoDayGoesBy();
        promise8ComesOnAnyDay();
        promise8HigherCellsStay();
        promise9Edges();
        promise9EachIsAMultiple();
        promise9Age9999AtMost();
        promise9Built9999AtMost();
        promise9NoWindAndMostWind();
        promise9SlidesOnlyWhenMore();
        promise9SlidesAtTheEnds();
        promise9SlidesAllAtOnce();
        promise9NoCellAbove30();
        promise9StoreRunsOutWithinADay();
        promise9Day99999AtMost();
        promise10Edges();
        promise10OfAnEmptyPit();
        promise10OfAFullPit();
        promise10RoadCountsFrom5On();
        promise10LeastOfTheHighest();
        Check.end("EdgePitTest");
    }

    private static SandLedger with(int kind, int from, int wide) {
        SandLedger x = new SandLedger();
        x.visitor(kind, from);
        x.change(0, 2, wide);
        return x;
    }

    private static void promise1NothingIsThereYet() {
        SandLedger x = new SandLedger();
        Check.due("promise 1: status", x.status(-1), 0);
        Check.due("promise 1: tear", x.tear(), 0);
        Check.due("promise 1: wipe", x.wipe(), 0);
        Check.due("promise 1: text of an empty tape", x.text(), -1);
        Check.due("promise 1: nothing was a finding", x.status(-1), 0);
        Check.due("promise 1: undo", x.undo(), Check.NONE);
        Check.due("promise 1: no visitor 0", x.of(0, 0), Check.BEYOND);
        for (int spot = 0; spot < 10; spot++) {
            Check.due("promise 1: spot " + spot, x.as(spot, 0), Check.MISSING);
        }
        for (int s = 0; s < 4; s++) {
            Check.due("promise 1: sheet " + s, x.write(s, 0, 0), Check.MISSING);
        }
        int[] counts = {0, 0, 80, 100, 0, 0, 1, 0};
        for (int what = 0; what < counts.length; what++) {
            Check.due("promise 1: count " + what, x.count(what), counts[what]);
        }
    }

    private static void promise1ObjectsShareNothing() {
        SandLedger first = Scene.busy();
        SandLedger x = new SandLedger();
        first.go(1);
        for (int cell = 0; cell < 16; cell++) {
            Check.due("promise 1: sand beside another object", x.cell(cell, 0), 5);
        }
        Check.due("promise 1: its visitors", x.count(1), 0);
        Check.due("promise 1: its status", x.status(-1), 0);
        Check.due("promise 1: its sheets", x.load(0), Check.MISSING);
        Check.due("promise 1: its image", x.undo(), Check.NONE);
        Check.due("promise 1: its tape", x.wipe(), 0);
    }

    private static void promise2Edges() {
        Scene.edges("promise 2: cell", (x, v) -> x.sand(v, 7), 0, 15);
        Scene.edges("promise 2: v", (x, v) -> x.sand(0, v), 0, 30);
        Scene.edges("promise 2: v of the last cell", (x, v) -> x.sand(15, v), 0, 30);
    }

    private static void promise2TellsWhatItWas() {
        SandLedger x = new SandLedger();
        for (int cell : new int[] {0, 15}) {
            Check.due("promise 2: at first", x.sand(cell, 30), 5);
            Check.due("promise 2: the most", x.sand(cell, 0), 30);
            Check.due("promise 2: the least", x.sand(cell, 0), 0);
            Check.due("promise 2: it is so", x.cell(cell, 0), 0);
        }
        Check.due("promise 2: no other cell", x.count(2), 14 * 5);
        Check.due("promise 2: no store", x.count(3), 100);
    }

    private static void promise3Edges() {
        Scene.edges("promise 3: cell", (x, v) -> x.cell(v, 0), 0, 15);
        Scene.edges("promise 3: cell of spans", (x, v) -> x.cell(v, 1), 0, 15);
        Scene.edges("promise 3: what", (x, v) -> x.cell(15, v), 0, 1);
    }

    private static void promise3SetsEmptyAndFull() {
        SandLedger x = new SandLedger();
        Check.due("promise 3: nobody", x.cell(15, 1), 0);
        for (int visitor = 0; visitor < 8; visitor++) {
            x.visitor(TRAVELLER, 15);
        }
        Check.due("promise 3: all eight", x.cell(15, 1), 255);
        Check.due("promise 3: none of eight", x.cell(14, 1), 0);
        x.change(7, 1, 0);
        Check.due("promise 3: the eighth alone", x.cell(0, 1), 128);
    }

    private static void promise3CellsBesideTheSpan() {
        SandLedger x = with(VISITOR, 5, 2);
        Check.due("promise 3: ahead of the span", x.cell(4, 1), 0);
        Check.due("promise 3: its first", x.cell(5, 1), 1);
        Check.due("promise 3: its last", x.cell(6, 1), 1);
        Check.due("promise 3: behind the span", x.cell(7, 1), 0);
        x.change(0, 0, BRIDE);
        Check.due("promise 3: ahead of a bride's", x.cell(3, 1), 0);
        Check.due("promise 3: a bride's first", x.cell(4, 1), 1);
        Check.due("promise 3: a bride's last", x.cell(6, 1), 1);
        Check.due("promise 3: behind a bride's", x.cell(7, 1), 0);
    }

    private static void promise4Edges() {
        Scene.edges("promise 4: what", (x, v) -> x.set(v, 0), 0, 2);
        Scene.edges("promise 4: store", (x, v) -> x.set(0, v), 0, 9999);
        Scene.edges("promise 4: wind", (x, v) -> x.set(1, v), 0, 5);
        Scene.edges("promise 4: wet", (x, v) -> x.set(2, v), 0, 9);
    }

    private static void promise4EachHasItsOwnBounds() {
        SandLedger x = new SandLedger();
        int[] first = {100, 1, 2};
        int[] most = {9999, 5, 9};
        for (int what = 0; what < 3; what++) {
            Check.due("promise 4: at first", x.set(what, most[what]), first[what]);
        }
        for (int what = 0; what < 3; what++) {
            Check.due("promise 4: the most", x.set(what, 0), most[what]);
            Check.due("promise 4: the least", x.set(what, first[what]), 0);
        }
        Check.due("promise 4: no sand", x.count(2), 80);
    }

    private static void promise5Edges() {
        Scene.edges("promise 5: kind", (x, v) -> x.visitor(v, 3), 0, 6);
        Scene.edges("promise 5: from", (x, v) -> x.visitor(6, v), 0, 15);
    }

    private static void promise5EighthAndNinth() {
        SandLedger x = Scene.busy();
        Check.due("promise 5: the eighth", x.visitor(BRIDE, 15), 7);
        Check.traitsAre("promise 5: the eighth", x, 7, BRIDE, 15, 3, 8, 2, 0, 0);
        Scene.refused("promise 5: the ninth", Scene::crowded, y -> y.visitor(0, 0), Check.FULL);
        Scene.refused("promise 5: the ninth bride", Scene::crowded, y -> y.visitor(6, 15), Check.FULL);
    }

    private static void promise5BeyondIsAskedBeforeFull() {
        Scene.refused("promise 5: full, kind -1", Scene::crowded, x -> x.visitor(-1, 0), Check.BEYOND);
        Scene.refused("promise 5: full, kind 7", Scene::crowded, x -> x.visitor(7, 0), Check.BEYOND);
        Scene.refused("promise 5: full, from -1", Scene::crowded, x -> x.visitor(0, -1), Check.BEYOND);
        Scene.refused("promise 5: full, from 16", Scene::crowded, x -> x.visitor(0, 16), Check.BEYOND);
    }

    private static void promise6Edges() {
        Scene.edges("promise 6: visitor of seven", (x, v) -> x.of(v, 0), 0, 6);
        Scene.edges("promise 6: visitor of eight", Scene::crowded, (x, v) -> x.of(v, 10), 0, 7);
        Scene.edges("promise 6: what", (x, v) -> x.of(6, v), 0, 10);
        Check.due("promise 6: nobody is there", new SandLedger().of(0, 0), Check.BEYOND);
    }

    private static int span(int kind, int from, int wide) {
        return with(kind, from, wide).of(0, 7);
    }

    private static void promise6SpansAtTheEnds() {
        for (int kind : new int[] {VISITOR, CHILD, BOY, DIGGER}) {
            Check.due("promise 6: ends just at cell 15", span(kind, 13, 3), 0b111 << 13);
            Check.due("promise 6: would end at cell 16", span(kind, 14, 3), 0b11 << 14);
            Check.due("promise 6: begins at cell 15", span(kind, 15, 3), 1 << 15);
            Check.due("promise 6: begins at cell 0", span(kind, 0, 3), 0b111);
        }
        Check.due("promise 6: a lover ends just at cell 0", span(LOVER, 2, 3), 0b111);
        Check.due("promise 6: a lover would end at -1", span(LOVER, 1, 3), 0b11);
        Check.due("promise 6: a lover at cell 0", span(LOVER, 0, 3), 1);
        Check.due("promise 6: a lover at cell 15", span(LOVER, 15, 3), 0b111 << 13);
        Check.due("promise 6: a bride ends just at cell 0", span(BRIDE, 2, 3), 0b1111);
        Check.due("promise 6: a bride would end at -1", span(BRIDE, 1, 3), 0b111);
        Check.due("promise 6: a bride at cell 0", span(BRIDE, 0, 3), 0b11);
        Check.due("promise 6: a bride's next is cell 15", span(BRIDE, 14, 3), 0b1111 << 12);
        Check.due("promise 6: a bride without a next", span(BRIDE, 15, 3), 0b111 << 13);
        Check.due("promise 6: a traveller at cell 0", span(TRAVELLER, 0, 8), 1);
        Check.due("promise 6: a traveller at cell 15", span(TRAVELLER, 15, 8), 1 << 15);
    }

    private static void promise6WidestAndNarrowestSpans() {
        for (int kind : new int[] {VISITOR, CHILD, BOY, DIGGER}) {
            Check.due("promise 6: 8 wide", span(kind, 0, 8), 0xff);
            Check.due("promise 6: 8 wide to the end", span(kind, 8, 8), 0xff00);
            Check.due("promise 6: 8 wide beyond the end", span(kind, 9, 8), 0xfe00);
            Check.due("promise 6: 1 wide", span(kind, 15, 1), 1 << 15);
        }
        Check.due("promise 6: lover 8 wide", span(LOVER, 15, 8), 0xff00);
        Check.due("promise 6: lover 8 wide to the begin", span(LOVER, 7, 8), 0xff);
        Check.due("promise 6: lover 8 wide beyond the begin", span(LOVER, 6, 8), 0x7f);
        Check.due("promise 6: lover 1 wide", span(LOVER, 0, 1), 1);
        Check.due("promise 6: bride 8 wide", span(BRIDE, 7, 8), 0x1ff);
        Check.due("promise 6: bride 1 wide", span(BRIDE, 0, 1), 0b11);
        Check.due("promise 6: bride 1 wide at the end", span(BRIDE, 15, 1), 1 << 15);
    }

    private static int raises(int kind, int high, int wet, int age) {
        SandLedger x = with(kind, 0, 3);
        x.change(0, 3, high);
        x.change(0, 5, age);
        x.set(2, wet);
        return x.of(0, 8);
    }

    private static void promise6QuotientsAreCut() {
        int[] thirds = {0, 0, 0, 1, 1, 1, 2, 2, 2, 3};
        for (int wet = 0; wet <= 9; wet++) {
            Check.due("promise 6: child, wet " + wet, raises(CHILD, 8, wet, 500), 8 + thirds[wet]);
            Check.due("promise 6: boy, wet " + wet, raises(BOY, 8, wet, 0), 8 + thirds[wet]);
            Check.due("promise 6: visitor, wet " + wet, raises(VISITOR, 8, wet, 500), 8);
        }
        Check.due("promise 6: boy of 9", raises(BOY, 8, 0, 9), 8);
        Check.due("promise 6: boy of 10", raises(BOY, 8, 0, 10), 9);
        Check.due("promise 6: boy of 19", raises(BOY, 8, 0, 19), 9);
        Check.due("promise 6: thirds and tenths are cut each by itself", raises(BOY, 8, 2, 9), 8);
        for (int high = 0; high <= 20; high++) {
            Check.due("promise 6: lover, high " + high, raises(LOVER, high, 9, 500), (high - high % 2) / 2);
            Check.due("promise 6: bride, high " + high, raises(BRIDE, high, 9, 500), (high - high % 2) / 2 + 2);
            Check.due("promise 6: traveller, high " + high, raises(TRAVELLER, high, 9, 500), high);
            Check.due("promise 6: visitor, high " + high, raises(VISITOR, high, 9, 500), high);
        }
        Check.due("promise 6: child, the most", raises(CHILD, 20, 9, 9999), 23);
        Check.due("promise 6: child, the least", raises(CHILD, 0, 2, 9999), 0);
    }

    private static void promise6BoyRaises30AtMost() {
        Check.due("promise 6: boy, 29", raises(BOY, 20, 9, 69), 29);
        Check.due("promise 6: boy, 30", raises(BOY, 20, 9, 70), 30);
        Check.due("promise 6: boy, 31 would be", raises(BOY, 20, 9, 80), 30);
        Check.due("promise 6: boy, age 300 alone", raises(BOY, 0, 0, 300), 30);
        Check.due("promise 6: boy, age 310 alone", raises(BOY, 0, 0, 310), 30);
        Check.due("promise 6: boy, age 299 alone", raises(BOY, 0, 0, 299), 29);
        Check.due("promise 6: the oldest boy", raises(BOY, 20, 9, 9999), 30);
    }

    private static void promise6DiggerRaises0WhateverElse() {
        Check.due("promise 6: digger, the most", raises(DIGGER, 20, 9, 9999), 0);
        Check.due("promise 6: digger, the least", raises(DIGGER, 0, 0, 0), 0);
    }

    private static int moves(int kind, int wind) {
        SandLedger x = with(kind, 0, 3);
        x.set(1, wind);
        return x.of(0, 9);
    }

    private static void promise6MovesAtTheBoundsOfWind() {
        int[] calm = {12, 20, 12, 40, 40, 1, 12};
        for (int kind = 0; kind <= 6; kind++) {
            Check.due("promise 6: moves of " + kind + " in no wind", moves(kind, 0), calm[kind]);
            Check.due("promise 6: moves of " + kind + " in wind 5", moves(kind, 5), kind == BRIDE ? 7 : calm[kind]);
        }
    }

    private static void promise6StandsExactly() {
        int[] raises = {8, 9, 4, 12, 0, 8, 6};
        for (int kind : new int[] {VISITOR, CHILD, LOVER, BOY, TRAVELLER, BRIDE}) {
            SandLedger x = with(kind, 6, 3);
            x.set(2, 3);
            x.change(0, 5, 30);
            Check.level(x, 30);
            for (int cell = 0; cell < 16; cell++) {
                boolean isIn = (x.of(0, 7) >> cell & 1) == 1;
                x.sand(cell, raises[kind]);
                Check.due("promise 6: kind " + kind + " just so high", x.of(0, 10), 1);
                x.sand(cell, raises[kind] - 1);
                Check.due("promise 6: kind " + kind + " one lower at " + cell, x.of(0, 10), isIn ? 0 : 1);
                x.sand(cell, 30);
            }
        }
        SandLedger x = with(VISITOR, 6, 3);
        x.change(0, 3, 0);
        Check.level(x, 0);
        Check.due("promise 6: high 0 always stands", x.of(0, 10), 1);
    }

    private static void promise6DiggersShapeStandsExactly() {
        SandLedger x = with(DIGGER, 14, 8);
        Check.level(x, 30);
        x.sand(14, 0);
        x.sand(15, 1);
        Check.due("promise 6: one left at the last cell", x.of(0, 10), 0);
        x.sand(15, 0);
        Check.due("promise 6: none left", x.of(0, 10), 1);
        x.sand(14, 1);
        Check.due("promise 6: one left at the first cell", x.of(0, 10), 0);
    }

    private static void promise7Edges() {
        int[] least = {0, 0, 1, 0, 1, 0, 0};
        int[] most = {6, 15, 8, 20, 9, 9999, 9999};
        for (int what = 0; what <= 6; what++) {
            int trait = what;
            Scene.edges("promise 7: v of " + what, (x, v) -> x.change(6, trait, v), least[what], most[what]);
        }
        Scene.edges("promise 7: what", (x, v) -> x.change(6, v, 5), 0, 6);
        Scene.edges("promise 7: visitor of seven", (x, v) -> x.change(v, 3, 7), 0, 6);
        Scene.edges("promise 7: visitor of eight", Scene::crowded, (x, v) -> x.change(v, 3, 7), 0, 7);
        Check.due("promise 7: nobody is there", new SandLedger().change(0, 3, 7), Check.BEYOND);
    }

    private static void promise7ChangesNoOtherTrait() {
        int[] most = {6, 15, 8, 20, 9, 9999, 9999};
        for (int what = 0; what <= 6; what++) {
            SandLedger x = new SandLedger();
            x.visitor(VISITOR, 0);
            x.visitor(VISITOR, 0);
            x.change(0, what, most[what]);
            int[] due = {0, 0, 3, 8, 2, 0, 0};
            for (int other = 0; other <= 6; other++) {
                Check.due("promise 7: of the next one", x.of(1, other), due[other]);
                Check.due("promise 7: of the changed one", x.of(0, other), other == what ? most[what] : due[other]);
            }
        }
    }

    private static void promise8Edges() {
        Scene.edges("promise 8: visitor of seven", (x, v) -> x.come(v), 0, 6);
        Scene.edges("promise 8: visitor of eight", Scene::crowded, (x, v) -> x.come(v), 0, 7);
        Check.due("promise 8: nobody is there", new SandLedger().come(0), Check.BEYOND);
    }

    /** Comes to a span of such sand, 4 wide, high 20, from cell 7 on or up to it. */
    private static void comesTo(String name, int kind, int due, boolean isBuilt, int... sand) {
        SandLedger x = with(kind, 7, 4);
        x.set(2, 0);
        x.change(0, 3, 20);
        int first = kind == LOVER || kind == BRIDE ? 4 : 7;
        for (int i = 0; i < sand.length; i++) {
            x.sand(first + i, sand[i]);
        }
        Check.due(name + " moves", x.come(0), due);
        Check.due(name + " built", x.of(0, 6), isBuilt ? 1 : 0);
        Check.due(name + ": store", x.count(3), 100 - due);
    }

    private static void promise8MovesExactly() {
        comesTo("promise 8: visitor, 12 lack", VISITOR, 12, true, 8, 20, 20, 20);
        comesTo("promise 8: visitor, 13 lack", VISITOR, 12, false, 7, 20, 20, 20);
        comesTo("promise 8: child, 20 lack", CHILD, 20, true, 0, 20, 20, 20);
        comesTo("promise 8: child, 21 lack", CHILD, 20, false, 0, 20, 20, 19);
        comesTo("promise 8: lover, 12 lack", LOVER, 12, true, 0, 10, 10, 8);
        comesTo("promise 8: lover, 13 lack", LOVER, 12, false, 0, 10, 10, 7);
        comesTo("promise 8: boy, 40 lack", BOY, 40, true, 0, 0, 20, 20);
        comesTo("promise 8: boy, 41 lack", BOY, 40, false, 0, 0, 19, 20);
        comesTo("promise 8: traveller, 1 lacks", TRAVELLER, 1, true, 19);
        comesTo("promise 8: traveller, 2 lack", TRAVELLER, 1, false, 18);
        comesTo("promise 8: bride, 11 lack", BRIDE, 11, true, 12, 12, 12, 12, 1);
        comesTo("promise 8: bride, 12 lack", BRIDE, 11, false, 12, 12, 12, 12, 0);
    }

    private static void promise8StoreHasExactly() {
        SandLedger x = with(VISITOR, 0, 3);
        x.set(0, 9);
        Check.due("promise 8: just what lacks", x.come(0), 9);
        Check.due("promise 8: the store is empty then", x.count(3), 0);
        Check.due("promise 8: built", x.of(0, 6), 1);
        x = with(VISITOR, 0, 3);
        x.set(0, 8);
        Check.due("promise 8: one less", x.come(0), 8);
        Check.due("promise 8: the store is empty then too", x.count(3), 0);
        Check.sandIs("promise 8: one lacks in the last cell", x, 8, 8, 7, 5);
        Check.due("promise 8: not built", x.of(0, 6), 0);
        x = with(VISITOR, 0, 3);
        x.set(0, 10);
        Check.due("promise 8: one more", x.come(0), 9);
        Check.due("promise 8: one is left", x.count(3), 1);
    }

    private static void promise8StoreIsEmpty() {
        SandLedger x = with(BOY, 13, 8);
        x.set(0, 0);
        Check.due("promise 8: nothing to move", x.come(0), 0);
        Check.due("promise 8: not built", x.of(0, 6), 0);
        Check.due("promise 8: no sand", x.count(2), 80);
        Check.level(x, 8);
        Check.due("promise 8: nothing lacks", x.come(0), 0);
        Check.due("promise 8: built without a store", x.of(0, 6), 1);
    }

    private static void promise8DiggerMovesExactly() {
        SandLedger x = with(DIGGER, 14, 2);
        x.sand(14, 30);
        x.sand(15, 10);
        Check.due("promise 8: digs 40", x.come(0), 40);
        Check.due("promise 8: dug through", x.of(0, 6), 1);
        Check.due("promise 8: the store has 40 more", x.count(3), 140);
        x.sand(14, 30);
        x.sand(15, 11);
        Check.due("promise 8: digs 40 of 41", x.come(0), 40);
        Check.due("promise 8: not dug through", x.of(0, 6), 1);
        Check.due("promise 8: one is left in the last cell", x.cell(15, 0), 1);
        Check.due("promise 8: none in the first", x.cell(14, 0), 0);
        Check.due("promise 8: digs the one", x.come(0), 1);
        Check.due("promise 8: digs none", x.come(0), 0);
        Check.due("promise 8: built thrice", x.of(0, 6), 3);
    }

    private static void promise8DiggerAtAFullStore() {
        for (int store : new int[] {9988, 9989, 9990, 9998, 9999}) {
            SandLedger x = with(DIGGER, 3, 2);
            x.set(0, store);
            Check.due("promise 8: digs all the same at " + store, x.come(0), 10);
            Check.due("promise 8: store behind " + store, x.count(3), store == 9988 ? 9998 : 9999);
            Check.due("promise 8: the sand is gone", x.count(2), 70);
            Check.due("promise 8: dug through", x.of(0, 6), 1);
        }
    }

    private static void promise8DiggerAtAnEmptyStore() {
        SandLedger x = with(DIGGER, 3, 2);
        x.set(0, 0);
        Check.due("promise 8: digs from an empty store", x.come(0), 10);
        Check.due("promise 8: the store has it", x.count(3), 10);
    }

    private static void promise8Built9999AtMost() {
        SandLedger x = with(VISITOR, 0, 1);
        x.change(0, 3, 5);
        x.change(0, 6, 9998);
        x.come(0);
        Check.due("promise 8: built 9999", x.of(0, 6), 9999);
        Check.due("promise 8: comes again", x.come(0), 0);
        Check.due("promise 8: built 9999 still", x.of(0, 6), 9999);
    }

    private static void promise8NoAgeGrowsAndNoDayGoesBy() {
        SandLedger x = Scene.busy();
        int day = x.count(0);
        int[] ages = new int[7];
        for (int visitor = 0; visitor < 7; visitor++) {
            ages[visitor] = x.of(visitor, 5);
        }
        for (int visitor = 0; visitor < 7; visitor++) {
            x.come(visitor);
        }
        for (int visitor = 0; visitor < 7; visitor++) {
            Check.due("promise 8: age", x.of(visitor, 5), ages[visitor]);
        }
        Check.due("promise 8: day", x.count(0), day);
        Check.due("promise 8: z", x.count(6), 123456789);
    }

    private static void promise8ComesOnAnyDay() {
        SandLedger x = with(TRAVELLER, 7, 1);
        x.set(1, 0);
        x.change(0, 4, 9);
        x.go(1);
        Check.due("promise 8: it doesn't come on this day", x.now(7), 0);
        Check.due("promise 8: it comes all the same", x.come(0), 1);
        Check.due("promise 8: and again", x.come(0), 1);
        Check.due("promise 8: sand", x.cell(7, 0), 8);
    }

    private static void promise8HigherCellsStay() {
        SandLedger x = with(VISITOR, 0, 3);
        Check.pour(x, 9, 8, 30);
        Check.due("promise 8: none is lower", x.come(0), 0);
        Check.sandIs("promise 8: the higher ones stay", x, 9, 8, 30);
        Check.due("promise 8: store", x.count(3), 100);
        Check.due("promise 8: built", x.of(0, 6), 1);
    }

    private static void promise9Edges() {
        Scene.edges("promise 9: n", (x, v) -> x.go(v), 1, 60);
        SandLedger one = Scene.busy();
        SandLedger many = Scene.busy();
        for (int i = 0; i < 60; i++) {
            one.go(1);
        }
        many.go(60);
        Check.due("promise 9: 60 days", many.count(0), 65);
        for (int cell = 0; cell < 16; cell++) {
            Check.due("promise 9: 60 days are 60 times a day", many.cell(cell, 0), one.cell(cell, 0));
        }
        for (int visitor = 0; visitor < 7; visitor++) {
            Check.due("promise 9: built in 60 days", many.of(visitor, 6), one.of(visitor, 6));
        }
    }

    private static void promise9EachIsAMultiple() {
        for (int each : new int[] {1, 2, 9}) {
            SandLedger x = with(TRAVELLER, 7, 1);
            x.change(0, 3, 0);
            x.change(0, 4, each);
            for (int day = 0; day < 20; day++) {
                boolean comes = day % each == 0;
                int built = x.of(0, 6);
                Check.due("promise 9: comes on day " + day, x.now(7), comes ? 1 : 0);
                x.go(1);
                Check.due("promise 9: came on day " + day, x.of(0, 6), comes ? built + 1 : built);
            }
        }
    }

    private static void promise9Age9999AtMost() {
        SandLedger x = with(VISITOR, 0, 3);
        x.visitor(BOY, 5);
        x.change(0, 5, 9998);
        x.change(1, 5, 9999);
        x.go(1);
        Check.due("promise 9: 9999", x.of(0, 5), 9999);
        Check.due("promise 9: 9999 stays", x.of(1, 5), 9999);
        x.go(1);
        Check.due("promise 9: 9999 stays too", x.of(0, 5), 9999);
    }

    private static void promise9Built9999AtMost() {
        SandLedger x = with(VISITOR, 0, 3);
        x.change(0, 3, 0);
        x.change(0, 4, 1);
        x.change(0, 6, 9997);
        x.go(1);
        Check.due("promise 9: 9998", x.of(0, 6), 9998);
        x.go(1);
        Check.due("promise 9: 9999", x.of(0, 6), 9999);
        x.go(60);
        Check.due("promise 9: built 9999 at most", x.of(0, 6), 9999);
    }

    private static void promise9NoWindAndMostWind() {
        SandLedger x = new SandLedger();
        x.set(1, 0);
        x.set(2, 0);
        Check.pour(x, 0, 30, 0);
        x.go(60);
        Check.sandIs("promise 9: no wind", x, 0, 30, 0, 5);
        x = new SandLedger();
        x.set(1, 5);
        x.set(2, 9);
        Check.pour(x, 0, 30, 0, 0);
        x.go(1);
        Check.sandIs("promise 9: wind 5, wet 9", x, 5, 20, 5, 0);
        for (int wind = 0; wind <= 5; wind++) {
            x = new SandLedger();
            x.set(1, wind);
            x.set(2, 9);
            x.sand(0, 30);
            x.sand(15, 30);
            x.go(1);
            Check.due("promise 9: one in each gust from cell 0", x.cell(0, 0), 30 - wind);
            Check.due("promise 9: one in each gust from cell 15", x.cell(15, 0), 30 - wind);
        }
        x = new SandLedger();
        x.set(1, 5);
        x.sand(0, 30);
        x.go(1);
        Check.due("promise 9: one alone in each gust", x.cell(0, 0), 25);
    }

    private static void promise9SlidesOnlyWhenMore() {
        for (int wet = 0; wet <= 9; wet++) {
            SandLedger x = new SandLedger();
            x.set(2, wet);
            Check.level(x, 4);
            x.sand(0, 4 + wet + 2);
            x.sand(15, 4 + wet + 2);
            x.go(1);
            Check.due("promise 9: just wet and 2 more at 0", x.cell(0, 0), 4 + wet + 2);
            Check.due("promise 9: just wet and 2 more at 15", x.cell(15, 0), 4 + wet + 2);
            x.sand(0, 4 + wet + 3);
            x.sand(15, 4 + wet + 3);
            x.go(1);
            Check.due("promise 9: one more at 0", x.cell(0, 0), 4 + wet + 2);
            Check.due("promise 9: it went to 1", x.cell(1, 0), 5);
            Check.due("promise 9: one more at 15", x.cell(15, 0), 4 + wet + 2);
            Check.due("promise 9: it went to 14", x.cell(14, 0), 5);
        }
    }

    /** The last cell has no next one, and the first one none ahead of it: sand doesn't leave the pit. */
    private static void promise9SlidesAtTheEnds() {
        SandLedger x = new SandLedger();
        x.set(1, 5);
        x.set(2, 0);
        Check.level(x, 0);
        x.sand(0, 30);
        x.sand(15, 30);
        x.go(60);
        Check.due("promise 9: all sand is there", x.count(2), 60);
        Check.due("promise 9: store", x.count(3), 100);
        Check.level(x, 30);
        x.go(60);
        Check.due("promise 9: a full pit stays full", x.count(2), 16 * 30);
        Check.level(x, 0);
        x.go(60);
        Check.due("promise 9: an empty pit stays empty", x.count(2), 0);
    }

    private static void promise9SlidesAllAtOnce() {
        SandLedger x = new SandLedger();
        x.set(2, 0);
        Check.level(x, 0);
        Check.pour(x, 9, 6, 3, 0);
        x.go(1);
        Check.sandIs("promise 9: each gives one", x, 8, 6, 3, 1, 0);
        Check.level(x, 0);
        Check.pour(x, 3, 0, 0);
        x.go(1);
        Check.sandIs("promise 9: what came goes no farther at once", x, 2, 1, 0, 0);
        Check.level(x, 0);
        x.sand(13, 3);
        x.sand(14, 6);
        x.sand(15, 9);
        x.go(1);
        Check.due("promise 9: backwards, cell 15", x.cell(15, 0), 8);
        Check.due("promise 9: backwards, cell 14", x.cell(14, 0), 6);
        Check.due("promise 9: backwards, cell 13", x.cell(13, 0), 3);
        Check.due("promise 9: backwards, cell 12", x.cell(12, 0), 1);
        Check.level(x, 0);
        x.sand(7, 4);
        x.go(1);
        Check.due("promise 9: to the next one first", x.cell(8, 0), 1);
        Check.due("promise 9: then to the one ahead", x.cell(6, 0), 1);
        Check.due("promise 9: two went", x.cell(7, 0), 2);
        x.sand(6, 0);
        x.sand(7, 3);
        x.sand(8, 0);
        x.go(1);
        Check.due("promise 9: the next one comes first", x.cell(8, 0), 1);
        Check.due("promise 9: too little for the one ahead", x.cell(6, 0), 0);
    }

    private static void promise9NoCellAbove30() {
        SandLedger x = new SandLedger();
        x.set(1, 5);
        x.set(2, 0);
        Check.level(x, 30);
        x.sand(7, 27);
        x.go(1);
        Check.due("promise 9: between two full ones", x.cell(7, 0), 28);
        Check.due("promise 9: from the one ahead", x.cell(6, 0), 29);
        Check.due("promise 9: not from the next one", x.cell(8, 0), 30);
        Check.due("promise 9: no sand goes to store", x.count(3), 100);
        for (int day = 0; day < 10; day++) {
            x.sand(day, 0);
            x.go(1);
            for (int cell = 0; cell < 16; cell++) {
                Check.holds("promise 9: 30 at most", x.cell(cell, 0) <= 30);
            }
        }
    }

    private static void promise9StoreRunsOutWithinADay() {
        SandLedger x = new SandLedger();
        x.set(1, 0);
        x.set(0, 10);
        x.visitor(VISITOR, 0);
        x.visitor(VISITOR, 5);
        x.visitor(VISITOR, 10);
        x.go(1);
        Check.sandIs("promise 9: by numbers", x, 8, 8, 8, 5, 5, 6, 5, 5, 5, 5, 5, 5);
        Check.due("promise 9: the store is empty", x.count(3), 0);
        Check.due("promise 9: who built", x.now(6), 1);
    }

    /** An object is promised for 512 calls, too few for its last day: this goes on beyond them. */
    private static void promise9Day99999AtMost() {
        SandLedger x = new SandLedger();
        for (int i = 0; i < 1666; i++) {
            x.go(60);
        }
        x.image();
        Check.due("promise 9: one too many", x.go(40), Check.STATE);
        Check.due("promise 9: no day went by", x.count(0), 99960);
        Check.due("promise 9: beyond is asked before state", x.go(61), Check.BEYOND);
        Check.due("promise 9: to the last day", x.go(39), 16);
        Check.due("promise 9: the last day", x.count(0), 99999);
        Check.due("promise 9: none behind it", x.go(1), Check.STATE);
        Check.due("promise 9: what will be is told all the same", x.high(0, 100), 5);
        Check.due("promise 25: none behind it", x.comings(1), Check.STATE);
        Check.due("promise 25: beyond is asked before state", x.comings(21), Check.BEYOND);
        x.undo();
        x.go(20);
        Check.due("promise 25: one too many", x.comings(20), Check.STATE);
        Check.due("promise 25: no draw", x.count(6), 1);
        Check.due("promise 25: to the last day", x.comings(19), 16);
        Check.due("promise 25: the last day", x.count(0), 99999);
    }

    private static void promise10Edges() {
        Scene.edges("promise 10: what", (x, v) -> x.now(v), 0, 7);
        for (int what = 0; what <= 7; what++) {
            int asked = what;
            Scene.onlyTells("promise 10: now " + what, x -> x.now(asked));
        }
    }

    private static void promise10OfAnEmptyPit() {
        SandLedger x = new SandLedger();
        Check.level(x, 0);
        x.set(0, 0);
        for (int what = 0; what <= 7; what++) {
            Check.due("promise 10: empty, what " + what, x.now(what), 0);
        }
    }

    private static void promise10OfAFullPit() {
        SandLedger x = new SandLedger();
        Check.level(x, 30);
        x.set(0, 9999);
        x.set(1, 0);
        for (int visitor = 0; visitor < 8; visitor++) {
            x.visitor(VISITOR, 2 * visitor);
            x.change(visitor, 6, 9999);
        }
        x.go(60);
        int[] due = {60, 16, 480, 9999, 255, 0, 8 * 9999, 255};
        for (int what = 0; what <= 7; what++) {
            Check.due("promise 10: full, what " + what, x.now(what), due[what]);
        }
    }

    private static void promise10RoadCountsFrom5On() {
        SandLedger x = new SandLedger();
        Check.level(x, 4);
        Check.due("promise 10: 4 is no road", x.now(1), 0);
        x.sand(0, 5);
        Check.due("promise 10: the first cell", x.now(1), 1);
        x.sand(0, 4);
        x.sand(15, 5);
        Check.due("promise 10: the last cell", x.now(1), 1);
        x.sand(0, 5);
        Check.due("promise 10: the ends don't join", x.now(1), 1);
        Check.level(x, 5);
        Check.due("promise 10: all", x.now(1), 16);
        x.sand(8, 4);
        Check.due("promise 10: the longer one", x.now(1), 8);
        x.sand(7, 4);
        x.sand(8, 30);
        Check.due("promise 10: the later one", x.now(1), 8);
    }

    private static void promise10LeastOfTheHighest() {
        SandLedger x = new SandLedger();
        Check.due("promise 10: all are as high", x.now(5), 0);
        x.sand(14, 6);
        x.sand(15, 6);
        Check.due("promise 10: of two the least", x.now(5), 14);
        x.sand(15, 7);
        Check.due("promise 10: the last", x.now(5), 15);
        for (int cell = 0; cell < 16; cell++) {
            x.sand(cell, 15 + cell);
            Check.due("promise 10: each in its turn", x.now(5), cell);
        }
    }
}
