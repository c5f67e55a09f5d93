/** The edges that promises 28 to 30 name, a test for each sentence. */
public final class EdgeTextTest {
    public static void main(String[] args) {
        promise28Edges();
        promise28FillsTheTapeExactly();
        promise28FullIsRefused();
        promise28BeyondIsAskedBeforeFull();
        promise28LowestBytesHighestFirst();
        promise29EmptyAndFull();
        promise30NumbersAtTheirBounds();
        promise30Numbers9999AtMost();
        promise30EndsTooEarly();
        promise30BlanksBetween();
        promise30PartsInTheirOrder();
        promise30WithoutParts();
        promise30OtherWords();
        promise30EveryByteAlone();
        promise30EveryByteBehindAnItem();
        promise30EveryByteBehindAWord();
        promise30EighthAndNinthVisitor();
        promise30FirstFaultCounts();
        promise30FullTape();
        promise30ItemByItem();
        promise30FaultChangesNothingButTheTape();
        promise30WithoutAFaultNothingElseChanges();
        Check.end("EdgeTextTest");
    }

    private static void fault(String text, int place) {
        SandLedger x = new SandLedger();
        Check.due("promise 30: fault of '" + text + "'", Check.read(x, text), -1 - place);
        Check.due("promise 30: the tape is empty behind '" + text + "'", x.count(5), 0);
        Check.due("promise 30: no finding behind '" + text + "'", x.status(-1), 0);
    }

    private static void items(String text, int due) {
        SandLedger x = new SandLedger();
        Check.due("promise 30: items of '" + text + "'", Check.read(x, text), due);
        Check.due("promise 30: the tape is empty behind '" + text + "'", x.count(5), 0);
        Check.due("promise 30: no finding behind '" + text + "'", x.status(-1), 0);
    }

    private static SandLedger tapeOf(int bytes) {
        SandLedger x = new SandLedger();
        for (int i = 0; i < bytes; i++) {
            x.feed(' ', 1);
        }
        return x;
    }

    private static void promise28Edges() {
        Scene.edges("promise 28: n", (x, v) -> x.feed(0x20202020, v), 1, 4);
        for (int bytes : new int[] {0, 1, -1, Integer.MIN_VALUE, Integer.MAX_VALUE}) {
            Check.due("promise 28: any number", new SandLedger().feed(bytes, 4), 4);
        }
    }

    private static void promise28FillsTheTapeExactly() {
        for (int n = 1; n <= 4; n++) {
            SandLedger x = new SandLedger();
            for (int bytes = n; bytes <= 120; bytes += n) {
                Check.due("promise 28: by " + n, x.feed(-1, n), bytes);
            }
            Check.due("promise 28: full", x.feed(-1, n), Check.FULL);
            Check.due("promise 28: 120", x.count(5), 120);
        }
        for (int n = 1; n <= 4; n++) {
            Check.due("promise 28: just room for " + n, tapeOf(120 - n).feed(-1, n), 120);
            Check.due("promise 28: no room for " + n, tapeOf(121 - n).feed(-1, n), Check.FULL);
        }
    }

    private static void promise28FullIsRefused() {
        for (int n = 2; n <= 4; n++) {
            int bytes = n;
            Scene.refused("promise 28: 119 and " + n, Scene::taped, x -> x.feed(0x20202020, bytes), Check.FULL);
        }
        Scene.refused("promise 28: 120 and 1", () -> {
            SandLedger x = Scene.taped();
            x.feed(' ', 1);
            return x;
        }, x -> x.feed(' ', 1), Check.FULL);
    }

    private static void promise28BeyondIsAskedBeforeFull() {
        Scene.edges("promise 28: n with room for one", Scene::taped, (x, v) -> x.feed(' ', v), 1, 4);
        Scene.refused("promise 28: 0 bytes to a full tape", Scene::taped, x -> x.feed(' ', 0), Check.BEYOND);
    }

    private static void promise28LowestBytesHighestFirst() {
        SandLedger x = new SandLedger();
        x.feed(0xffffff77, 1);
        x.feed(0xffff6574, 2);
        x.feed(0xff203020, 3);
        x.feed(0x3b776574, 4);
        x.feed(0x80000038, 1);
        Check.due("promise 28: 'wet 0 ;wet8'", x.text(), 2);
        Check.due("promise 28: wet", x.set(2, 0), 8);
        x.feed(0x77657438, 4);
        x.feed(-1, 1);
        Check.due("promise 28: a byte of 255", x.text(), -1 - 4);
        x.feed(0x77657438, 4);
        x.feed(0, 1);
        Check.due("promise 28: a byte of 0", x.text(), -1 - 4);
        x.feed(0x77657438, 4);
        x.feed(0x120, 1);
        Check.due("promise 28: a blank", x.text(), 1);
    }

    private static void promise29EmptyAndFull() {
        SandLedger x = tapeOf(120);
        Check.due("promise 29: full", x.wipe(), 120);
        Check.due("promise 29: empty", x.wipe(), 0);
        Check.due("promise 29: count", x.count(5), 0);
        Check.due("promise 29: room again", x.feed(' ', 4), 4);
        Check.due("promise 29: no finding", x.status(-1), 0);
        x = Scene.busy();
        x.image();
        x.wipe();
        x.undo();
        Check.due("promise 29: undo brings no bytes back", x.count(5), 0);
    }

    /** A number's least, its most, and the first that is refused above and, where there is one, below. */
    private static void bounds(String ahead, int least, int most) {
        items(ahead + least, 1);
        items(ahead + most, 1);
        fault(ahead + (most + 1), ahead.length());
        if (least > 0) {
            fault(ahead + (least - 1), ahead.length());
        }
        fault(ahead + "-1", ahead.length());
        fault(ahead + 9999999, ahead.length());
    }

    private static void promise30NumbersAtTheirBounds() {
        String[] words = {"visitor", "child", "lover", "boy", "digger", "traveller", "bride"};
        for (String word : words) {
            bounds(word + " from ", 0, 15);
            bounds(word + " wide ", 1, 8);
            bounds(word + " high ", 0, 20);
            bounds(word + " each ", 1, 9);
        }
        bounds("sand 0 ", 0, 30);
        bounds("sand 15 ", 0, 30);
        fault("sand 16 0", 5);
        fault("sand 16", 5);
        bounds("store ", 0, 9999);
        bounds("wind ", 0, 5);
        bounds("wet ", 0, 9);
        SandLedger x = new SandLedger();
        String most = "bride from 15 wide 8 high 20 each 9;sand 15 30;store 9999;wind 5;wet 9";
        Check.due("promise 30: the most", Check.read(x, most), 5);
        Check.traitsAre("promise 30: the most", x, 0, 6, 15, 8, 20, 9, 0, 0);
        Check.due("promise 30: sand 30", x.cell(15, 0), 30);
        Check.due("promise 30: store 9999", x.count(3), 9999);
        String least = "boy from 0 wide 1 high 0 each 1;sand 0 0;store 0;wind 0;wet 0";
        Check.due("promise 30: the least", Check.read(x, least), 5);
        Check.traitsAre("promise 30: the least", x, 1, 3, 0, 1, 0, 1, 0, 0);
        Check.due("promise 30: sand 0", x.cell(0, 0), 0);
        Check.due("promise 30: store 0", x.count(3), 0);
        Check.due("promise 30: wind 0", x.set(1, 1), 0);
        Check.due("promise 30: wet 0", x.set(2, 1), 0);
    }

    private static void promise30Numbers9999AtMost() {
        items("store 9999", 1);
        fault("store 10000", 6);
        items("store 09999", 1);
        items("store 00000000000000000000000000009999", 1);
        fault("store 010000", 6);
        String[] wrapping = {"65536", "2147483647", "2147483648", "4294967295", "4294967296", "4294967297",
            "8589934592", "18446744073709551616", "18446744073709551617", "340282366920938463463374607431768211456"};
        for (String number : wrapping) {
            fault("store " + number, 6);
            fault("wind " + number, 5);
            fault("boy from " + number, 9);
        }
        fault("10000", 0);
        fault("wet 3 10000", 6);
    }

    private static void promise30EndsTooEarly() {
        String[] early = {"", "visitor from", "boy from 3 wide", "boy wide", "boy from 3 wide 2 high", "lover high",
            "bride each", "boy from 3 wide 2 high 1 each", "sand", "sand 3", "store", "wind", "wet", "wet 3;", "boy;",
            "boy from 3;", "wet 3;sand", "wet 3;sand 4", "wet 3;boy each", "boy;boy;boy;"};
        for (String text : early) {
            fault(text, text.length());
            fault(text + "   ", text.length() + 3);
            fault("  " + text, text.length() + 2);
        }
        String[] enough = {"visitor", "boy from 3", "boy wide 2", "boy high 1", "boy each 1", "sand 3 4",
            "store 3", "wind 3", "wet 3"};
        for (String text : enough) {
            items(text, 1);
            items(text + ";" + text, 2);
        }
    }

    private static void promise30BlanksBetween() {
        items("  boy  from  3  wide  2  high  1  each  4  ;  sand  3  4  ;  wet  5  ", 3);
        items("boy from3wide2high1each4;sand3 4;wet5", 3);
        fault("sand34", 4);
        fault("boyfrom3", 0);
        fault("boy fro m3", 4);
        fault("we t 3", 0);
        fault("wet 1 2", 6);
        fault("store 99 99", 9);
        fault("wet\t3", 3);
        fault("wet\n3", 3);
        fault("wet\r3", 3);
        fault("wet" + (char) 160 + "3", 3);
    }

    private static void promise30PartsInTheirOrder() {
        String[] parts = {"from", "wide", "high", "each"};
        for (int first = 0; first < 4; first++) {
            for (int second = 0; second < 4; second++) {
                String text = "boy " + parts[first] + " 3 " + parts[second] + " 4";
                if (first < second) {
                    items(text, 1);
                } else {
                    fault(text, 11);
                }
            }
        }
        fault("boy from 3 4", 11);
        fault("boy 3", 4);
        fault("boy sand 3 4", 4);
        fault("boy boy", 4);
        fault("sand 3 4 5", 9);
        fault("sand 3 4 from 5", 9);
        fault("sand from 3", 5);
        fault("sand 3 from", 7);
        fault("sand ; 3", 5);
        fault("sand 3 ; 4", 7);
        fault("wet wet 3", 4);
        fault(";wet 3", 0);
        fault("wet 3;;wet 3", 6);
    }

    private static void promise30WithoutParts() {
        String[] words = {"visitor", "child", "lover", "boy", "digger", "traveller", "bride"};
        for (int kind = 0; kind <= 6; kind++) {
            SandLedger x = new SandLedger();
            x.go(3);
            Check.due("promise 30: a " + words[kind] + " alone", Check.read(x, words[kind]), 1);
            Check.traitsAre("promise 30: as at first", x, 0, kind, 0, 3, 8, 2, 0, 0);
            Check.due("promise 30: nobody else", x.count(1), 1);
        }
    }

    private static void promise30OtherWords() {
        String[] words = {"visitor", "child", "lover", "boy", "digger", "traveller", "bride"};
        for (String word : words) {
            items(word, 1);
            fault(word.substring(0, word.length() - 1), 0);
            fault(word.substring(1), 0);
            fault(word + "s", 0);
            fault("a" + word, 0);
            fault("q" + word.substring(1), 0);
            fault(word.substring(0, word.length() - 1) + "q", 0);
            fault(word.toUpperCase(), 0);
            fault(word.substring(0, 1) + word.substring(1).toUpperCase(), 0);
        }
        for (String word : new String[] {"store", "wind", "wet"}) {
            items(word + " 3", 1);
            fault(word.substring(0, word.length() - 1) + " 3", 0);
            fault(word + "s 3", 0);
        }
        for (String word : new String[] {"from", "wide", "high", "each"}) {
            fault(word + " 3", 0);
            fault("boy " + word.substring(0, word.length() - 1) + " 3", 4);
            fault("boy " + word + "s 3", 4);
            fault("boy q" + word.substring(1) + " 3", 4);
        }
        fault("san 3 4", 0);
        fault("sands 3 4", 0);
    }

    private static boolean isLetter(int sign) {
        return sign >= 'a' && sign <= 'z';
    }

    private static boolean isDigit(int sign) {
        return sign >= '0' && sign <= '9';
    }

    private static int readWith(String text, int sign) {
        SandLedger x = new SandLedger();
        Check.feed(x, text);
        x.feed(sign, 1);
        return x.text();
    }

    private static void promise30EveryByteAlone() {
        for (int sign = 0; sign < 256; sign++) {
            Check.due("promise 30: byte " + sign + " alone", readWith("", sign), sign == ' ' ? -2 : -1);
        }
    }

    private static void promise30EveryByteBehindAnItem() {
        for (int sign = 0; sign < 256; sign++) {
            int due = -1 - 5;
            if (sign == ' ') {
                due = 1;
            } else if (sign == ';') {
                due = -1 - 6;
            } else if (isDigit(sign)) {
                due = -1 - 4;
            }
            Check.due("promise 30: byte " + sign + " behind an item", readWith("wet 3", sign), due);
        }
    }

    private static void promise30EveryByteBehindAWord() {
        for (int sign = 0; sign < 256; sign++) {
            int due = -1 - 3;
            if (sign == ' ') {
                due = -1 - 4;
            } else if (isLetter(sign)) {
                due = -1;
            } else if (isDigit(sign)) {
                due = 1;
            }
            Check.due("promise 30: byte " + sign + " behind a word", readWith("wet", sign), due);
        }
    }

    private static void promise30EighthAndNinthVisitor() {
        items("boy;boy;boy;boy;boy;boy;boy;boy", 8);
        fault("boy;boy;boy;boy;boy;boy;boy;boy;boy", 32);
        fault("boy;boy;boy;boy;boy;boy;boy;boy;  bride from 99", 34);
        fault("boy;boy;boy;boy;boy;boy;boy;boy;boyx", 32);
        fault("boy;boy;boy;boy;boy;boy;boy;boy x", 32);
        for (String word : new String[] {"visitor", "child", "lover", "boy", "digger", "traveller", "bride"}) {
            SandLedger x = Scene.crowded();
            x.wipe();
            Check.due("promise 30: the ninth is a " + word, Check.read(x, "wet 3;" + word), -1 - 6);
            Check.due("promise 30: eight stay", x.count(1), 8);
            Check.due("promise 30: a ninth is no finding", x.status(-1), 0);
        }
        SandLedger x = Scene.busy();
        x.wipe();
        Check.due("promise 30: the eighth", Check.read(x, "bride from 15"), 1);
        Check.due("promise 30: eight", x.count(1), 8);
        Check.due("promise 30: without a visitor", Check.read(x, "wet 3;sand 3 4"), 2);
    }

    private static void promise30FirstFaultCounts() {
        fault("wet 10;#", 4);
        fault("# wet 10", 0);
        fault("wet 3 # x", 6);
        fault("boy from 16 wide 9", 9);
        fault("sand 16 31", 5);
    }

    private static void promise30FullTape() {
        items("wet 3" + " ".repeat(115), 1);
        items("wet " + "0".repeat(115) + "3", 1);
        items(" ".repeat(115) + "wet 3", 1);
        items("wet1;".repeat(23) + "wet 7", 24);
        items("boy from 3 wide 2;".repeat(6) + "boy each   3", 7);
        fault(" ".repeat(120), 120);
        fault("wet 3" + " ".repeat(114) + ";", 120);
        fault(" ".repeat(117) + "wet", 120);
        fault(" ".repeat(119) + "x", 119);
        fault("wet 3" + " ".repeat(114) + "4", 119);
        fault("wet1;".repeat(24), 120);
        fault("x".repeat(120), 0);
        fault("9".repeat(120), 0);
        fault(";".repeat(120), 0);
    }

    private static void promise30ItemByItem() {
        SandLedger x = new SandLedger();
        String again = "sand 3 9;sand 3 8;wet 3;wet 4;store 5;store 6;wind 2;wind 3";
        Check.due("promise 30: again and again", Check.read(x, again), 8);
        Check.due("promise 30: the latest sand", x.cell(3, 0), 8);
        Check.due("promise 30: the latest wet", x.set(2, 0), 4);
        Check.due("promise 30: the latest store", x.set(0, 0), 6);
        Check.due("promise 30: the latest wind", x.set(1, 0), 3);
        Check.due("promise 30: numbers in their order", Check.read(x, "bride from 9;boy from 8"), 2);
        Check.due("promise 30: the first one's kind", x.of(0, 0), 6);
        Check.due("promise 30: the second one's from", x.of(1, 1), 8);
    }

    private static void promise30FaultChangesNothingButTheTape() {
        String[] faulty = {"", "x", "bride from 3 wide 4 high 5 each 6;x", "sand 0 9;sand 15 9;",
            "store 7;wind 3;wet 7;wet 10", "boy;boy", "boy from 4 each 10"};
        for (String text : faulty) {
            SandLedger x = Scene.busy();
            x.wipe();
            Check.holds("promise 30: a fault in '" + text + "'", Check.read(x, text) < 0);
            Check.due("promise 30: no finding by '" + text + "'", x.status(-1), 0);
            SandLedger untouched = Scene.busy();
            untouched.wipe();
            Scene.same("promise 30: behind '" + text + "'", Scene.told(x), Scene.told(untouched));
        }
    }

    private static void promise30WithoutAFaultNothingElseChanges() {
        SandLedger x = Scene.busy();
        x.wipe();
        Check.due("promise 30: what is so already", Check.read(x, "wet 3;wind 2"), 2);
        SandLedger untouched = Scene.busy();
        untouched.wipe();
        Scene.same("promise 30: behind what is so already", Scene.told(x), Scene.told(untouched));
    }
}
