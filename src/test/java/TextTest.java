/** Promises 28 to 30: the tape and its texts. */
public final class TextTest {
    public static void main(String[] args) {
        promise28Feed();
        promise29Wipe();
        promise30Items();
        promise30Faults();
        promise30FullTapes();
        promise30NinthVisitor();
        promise30NothingChangesWithAFault();
        Check.end("TextTest");
    }

    private static void promise28Feed() {
        SandLedger x = new SandLedger();
        Check.due("feed(0, 0)", x.feed(0, 0), Check.BEYOND);
        Check.due("feed(0, 5)", x.feed(0, 5), Check.BEYOND);
        Check.due("feed(0, -1)", x.feed(0, -1), Check.BEYOND);
        Check.due("nothing fed", x.count(5), 0);
        Check.due("feed \"wet \"", x.feed(0x77657420, 4), 4);
        Check.due("feed \"7;w\"", x.feed(0x7f373b77, 3), 7);
        Check.due("feed \"in\"", x.feed(0x7fff696e, 2), 9);
        Check.due("feed \"d\"", x.feed(0x12345664, 1), 10);
        Check.due("feed \" 4\"", x.feed(0x2034, 2), 12);
        Check.due("text", x.text(), 2);
        Check.due("wet", x.set(2, 2), 7);
        Check.due("wind", x.set(1, 1), 4);
        for (int i = 1; i <= 29; i++) {
            Check.due("feed 4", x.feed(0, 4), 4 * i);
        }
        Check.due("feed 2", x.feed(0, 2), 118);
        Check.due("feed 3 is too much", x.feed(0, 3), Check.FULL);
        Check.due("118 stay", x.count(5), 118);
        Check.due("beyond is asked first", x.feed(0, 5), Check.BEYOND);
        Check.due("feed 2", x.feed(0, 2), 120);
        Check.due("feed 1 is too much", x.feed(0, 1), Check.FULL);
        Check.due("120 stay", x.wipe(), 120);
    }

    private static void promise29Wipe() {
        SandLedger x = new SandLedger();
        Check.due("wipe of an empty tape", x.wipe(), 0);
        x.feed(0x77657420, 4);
        Check.due("wipe", x.wipe(), 4);
        Check.due("empty", x.count(5), 0);
        Check.due("wiped bytes are gone", Check.read(x, "wet 1"), 1);
    }

    private static void promise30Items() {
        SandLedger x = new SandLedger();
        Check.due("all kinds", Check.read(x, "visitor;child;lover;boy;digger;traveller;bride"), 7);
        for (int kind = 0; kind < 7; kind++) {
            Check.traitsAre("all kinds", x, kind, kind, 0, 3, 8, 2, 0, 0);
        }
        Check.due("tape is empty", x.count(5), 0);
        x = new SandLedger();
        Check.due("all traits", Check.read(x, "boy from 15 wide 8 high 20 each 9;boy from0wide1high0each1"), 2);
        traitsAre(x, 0, 15, 8, 20, 9);
        traitsAre(x, 1, 0, 1, 0, 1);
        Check.due("some traits", Check.read(x, " boy wide 2 each 3 ;child from 7 high 9"), 2);
        traitsAre(x, 2, 0, 2, 8, 3);
        traitsAre(x, 3, 7, 3, 9, 2);
        Check.due("settings", Check.read(x, "sand 15 30;sand 0 0;store 9999;wind 5;wet 9 "), 5);
        Check.due("sand 15", x.cell(15, 0), 30);
        Check.due("sand 0", x.cell(0, 0), 0);
        Check.due("store", x.set(0, 0), 9999);
        Check.due("wind", x.set(1, 0), 5);
        Check.due("wet", x.set(2, 0), 9);
        Check.due("item by item", Check.read(x, "wet 3;wet 004;sand 1 2;sand 1 3"), 4);
        Check.due("the latest wet", x.set(2, 0), 4);
        Check.due("the latest sand", x.cell(1, 0), 3);
        Check.due("store 0", Check.read(x, "store 0;wind 0;wet 0"), 3);
        Check.due("no finding", x.status(-1), 0);
        Check.due("no day", x.count(0), 0);
    }

    private static void traitsAre(SandLedger x, int visitor, int from, int wide, int high, int each) {
        Check.due("from", x.of(visitor, 1), from);
        Check.due("wide", x.of(visitor, 2), wide);
        Check.due("high", x.of(visitor, 3), high);
        Check.due("each", x.of(visitor, 4), each);
    }

    private static void fault(String text, int place) {
        SandLedger x = new SandLedger();
        Check.due("fault of " + text, Check.read(x, text), -1 - place);
        Check.due("tape is empty behind a fault", x.count(5), 0);
        Check.due("a fault is no finding", x.status(-1), 0);
    }

    private static void promise30Faults() {
        fault("", 0);
        fault("   ", 3);
        fault(";", 0);
        fault("wet 1;", 6);
        fault("wet 1;  ", 8);
        fault("wet 1;;wet 1", 6);
        fault("wet 1 2", 6);
        fault("wet 1 wet 1", 6);
        fault("wet", 3);
        fault("wet ;", 4);
        fault("wet wet", 4);
        fault("wet 10", 4);
        fault("wind 6", 5);
        fault("store 10000", 6);
        fault("store 99999999999999999999", 6);
        fault("sand 16 1", 5);
        fault("sand 1 31", 7);
        fault("sand 1", 6);
        fault("sand 1;", 6);
        fault("sand", 4);
        fault("5", 0);
        fault("Boy", 0);
        fault("boys", 0);
        fault("bo", 0);
        fault("from 3", 0);
        fault("boy from", 8);
        fault("boy from wide", 9);
        fault("boy from 16", 9);
        fault("boy wide 0", 9);
        fault("boy wide 9", 9);
        fault("boy high 21", 9);
        fault("boy each 0", 9);
        fault("boy each 10", 9);
        fault("boy high 3 wide 2", 11);
        fault("boy each 3 each 4", 11);
        fault("boy from 3 from 4", 11);
        fault("boy high 3 from 4", 11);
        fault("boy 3", 4);
        fault("boy boy", 4);
        fault("boyfrom 3", 0);
        fault("boy wet 3", 4);
        fault("wet 3#", 5);
        fault("wet# 3", 3);
        fault("wet\t3", 3);
        fault("wet 3\n", 5);
        fault("wet -3", 4);
        fault("wet 3" + (char) 200, 5);
        fault("\u0000", 0);
        fault("wet 3{", 5);
        fault("wet 3`", 5);
        fault("wet 3:", 5);
        fault("wet 3/", 5);
        fault("nobody #", 0);
        fault("toy", 0);
        fault("wetz 3", 0);
        fault("weta 3", 0);
        fault("awet 3", 0);
        fault("zwet 3", 0);
        fault("met 3", 0);
        fault("find 3", 0);
        fault("boy grom 3", 4);
    }

    /** A token or blanks that end with the last byte that the tape can have. */
    private static void promise30FullTapes() {
        fault(" ".repeat(120), 120);
        fault("wet 3;" + " ".repeat(111) + "wet", 120);
        fault("z".repeat(120), 0);
        fault("9".repeat(120), 0);
        fault("wet 3" + ";".repeat(115), 6);
        Check.due("blanks", Check.read(new SandLedger(), "wet 3" + " ".repeat(115)), 1);
        Check.due("zeros", Check.read(new SandLedger(), "wet " + "0".repeat(115) + "3"), 1);
        Check.due("a word", Check.read(new SandLedger(), " ".repeat(117) + "boy"), 1);
        Check.due("many items", Check.read(new SandLedger(), "wet1;".repeat(23) + "wet 7"), 24);
    }

    private static void promise30NinthVisitor() {
        SandLedger x = new SandLedger();
        for (int v = 0; v < 7; v++) {
            x.visitor(0, 0);
        }
        Check.due("the ninth", Check.read(x, "boy;  boy from 99"), -1 - 6);
        Check.due("seven stay", x.count(1), 7);
        Check.due("the eighth", Check.read(x, "boy from 3"), 1);
        Check.due("eight", x.count(1), 8);
        Check.due("the ninth alone", Check.read(x, "wet 3;boy"), -1 - 6);
        Check.due("an earlier fault counts", Check.read(x, "wet 33;boy"), -1 - 4);
        Check.due("no visitor", Check.read(x, "wet 3"), 1);
    }

    private static void promise30NothingChangesWithAFault() {
        SandLedger x = new SandLedger();
        x.visitor(0, 3);
        Check.due("fault at the end", Check.read(x, "boy;sand 3 4;store 7;wind 3;wet 8;x"), -1 - 34);
        Check.due("visitors", x.count(1), 1);
        Check.due("sand", x.cell(3, 0), 5);
        Check.due("store", x.set(0, 100), 100);
        Check.due("wind", x.set(1, 1), 1);
        Check.due("wet", x.set(2, 2), 2);
        x.visitor(1, 4);
        x.hold(3, 1);
        x.seed(77);
        x.go(1);
        Check.due("a text behind days", Check.read(x, "wet 3"), 1);
        Check.due("day stays", x.count(0), 1);
        Check.due("z stays", x.count(6), 77);
        Check.due("spots stay", x.as(3, 1), 1);
        Check.due("age stays", x.of(0, 5), 1);
    }
}
