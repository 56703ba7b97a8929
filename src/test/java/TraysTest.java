/** Promises 1 to 8: a new object, what calls say of themselves, trays. */
public final class TraysTest {
    public static void main(String[] args) {
        newObject();
        statusStays();
        fractionStays();
        trayIsMade();
        numbersAreCut();
        readTellsNone();
        numbersArePoured();
        pourAsksInOrder();
        Check.end("TraysTest");
    }

    private static void newObject() {
        SnowForts x = new SnowForts();
        Check.due("NONE", SnowForts.NONE, -1);
        Check.due("new: status()", x.status(), 0);
        Check.due("new: top()", x.top(), 0);
        Check.due("new: bottom()", x.bottom(), 1);
        Check.due("new: fault(0)", x.fault(0), -1);
        Check.due("new: fault(1)", x.fault(1), -1);
        int[] told = {2, 1, 0, 0, 0, 0, 0, 0, 0, 0};
        for (int what = 0; what < told.length; what++) {
            Check.due("new: many(" + what + ")", x, x.many(what), told[what], 0);
        }
        for (int tray = 0; tray < 4; tray++) {
            Check.due("new: read(" + tray + ", 0)", x, x.read(tray, 0), -1, 3);
        }
        for (int kind = 0; kind < 4; kind++) {
            Check.due("new: article(" + kind + ")", x, x.article(kind), -1, 8);
        }
        Check.due("new: cell(1, 0, 1)", x, x.cell(1, 0, 1), 0, 0);
        Check.due("new: cell(0, 1, 1)", x, x.cell(0, 1, 1), -1, 2);
        Check.due("new: school(0, 0)", x, x.school(0, 0), -1, 2);
        Check.due("new: run(0)", x, x.run(0), -1, 8);
        Check.due("new: back()", x, x.back(), -1, 8);
        Check.due("new: yard(1)", x, x.yard(1), -1, 5);
        Check.due("new: wayAt(0, 0)", x, x.wayAt(0, 0), -1, 8);
        Check.due("new: worked(0)", x, x.worked(0), -1, 8);
        Check.due("new: ran(0)", x, x.ran(0), -1, 8);
        Check.due("new: breach(0)", x, x.breach(0), -1, 8);
    }

    private static void statusStays() {
        SnowForts x = new SnowForts();
        x.many(10);
        Check.due("status behind many(10)", x.status(), 5);
        x.status();
        x.top();
        x.bottom();
        x.fault(0);
        x.feed(1, 2, 3, 4, 5);
        Check.due("status behind calls that have none", x.status(), 5);
        x.many(0);
        Check.due("status behind many(0)", x.status(), 0);
    }

    private static void fractionStays() {
        SnowForts x = new SnowForts();
        Check.row(x, 0, 4, 4, 4, 4);
        Check.due("stands(1, 1, 0)", x, x.stands(1, 1, 0), true, 0);
        Check.due("top()", x.top(), 1);
        Check.due("bottom()", x.bottom(), 4);
        Check.due("stands(1, 9, 0)", x, x.stands(1, 9, 0), false, 5);
        Check.due("peaces(0, 1)", x, x.peaces(0, 1), false, 8);
        Check.due("top() behind calls that fail", x.top(), 1);
        Check.due("bottom() behind calls that fail", x.bottom(), 4);
    }

    private static void trayIsMade() {
        SnowForts x = new SnowForts();
        Check.due("tray(-1, 0, 1)", x, x.tray(-1, 0, 1), false, 1);
        Check.due("tray(4, 0, 1)", x, x.tray(4, 0, 1), false, 1);
        Check.due("tray(0, -1, 1)", x, x.tray(0, -1, 1), false, 1);
        Check.due("tray(0, 4, 99)", x, x.tray(0, 4, 99), false, 1);
        Check.due("tray(0, 0, 61)", x, x.tray(0, 0, 61), false, 5);
        Check.due("tray(0, 0, -1)", x, x.tray(0, 0, -1), false, 6);
        Check.due("tray(0, 0, least)", x, x.tray(0, 0, Integer.MIN_VALUE), false, 6);
        Check.due("a tray that was not made", x, x.read(0, 0), -1, 3);
        Check.due("tray(3, 3, 60)", x, x.tray(3, 3, 60), true, 0);
        Check.due("read(3, 59)", x, x.read(3, 59), 0, 0);
        Check.due("read(3, 60)", x, x.read(3, 60), -1, 4);
        x.write(3, 7, 77);
        Check.due("tray(3, 2, 8)", x, x.tray(3, 2, 8), true, 0);
        Check.due("a new tray is all 0", x, x.read(3, 7), 0, 0);
        Check.due("read(3, 8)", x, x.read(3, 8), -1, 4);
        Check.due("tray(3, 2, 0)", x, x.tray(3, 2, 0), true, 0);
        Check.due("a tray of no numbers", x, x.read(3, 0), -1, 4);
    }

    private static void numbersAreCut() {
        SnowForts x = new SnowForts();
        long v = 0x1234567890abcdefL;
        long[] due = {(byte) v, (short) v, (int) v, v};
        for (int sort = 0; sort < 4; sort++) {
            x.tray(sort, sort, 3);
            Check.due("write(" + sort + ", 2, v)", x, x.write(sort, 2, v), true, 0);
            Check.due("cut by sort " + sort, x, x.read(sort, 2), due[sort], 0);
            x.write(sort, 2, -1);
            Check.due("-1 of sort " + sort, x, x.read(sort, 2), -1, 0);
        }
        x.write(0, 0, 128);
        Check.due("128 in 8 bits", x.read(0, 0), -128);
        x.write(1, 0, 32768);
        Check.due("32768 in 16 bits", x.read(1, 0), -32768);
        x.write(2, 0, 1L << 31);
        Check.due("2 to the 31st in 32 bits", x.read(2, 0), Integer.MIN_VALUE);
        Check.due("write(4, 0, 1)", x, x.write(4, 0, 1), false, 1);
        Check.due("write(0, 3, 1)", x, x.write(0, 3, 1), false, 4);
        Check.due("write(0, -1, 1)", x, x.write(0, -1, 1), false, 4);
        Check.due("write to a missing tray", new SnowForts().write(0, 0, 1), false);
    }

    private static void readTellsNone() {
        SnowForts x = new SnowForts();
        Check.due("read(-1, 0)", x, x.read(-1, 0), -1, 1);
        Check.due("read(4, 0)", x, x.read(4, 0), -1, 1);
        Check.due("read(1, -5)", x, x.read(1, -5), -1, 3);
        x.tray(1, 0, 1);
        x.write(1, 0, -1);
        Check.due("read(1, 0) of -1", x, x.read(1, 0), -1, 0);
        Check.due("read(1, 1)", x, x.read(1, 1), -1, 4);
        Check.due("read(1, 0) behind one that fails", x, x.read(1, 0), -1, 0);
        Check.due("read(1, most)", x, x.read(1, Integer.MAX_VALUE), -1, 4);
    }

    private static void numbersArePoured() {
        SnowForts x = new SnowForts();
        Check.row(x, 0, 1, 2, 3, 4, 5);
        Check.row(x, 1, 9, 9, 9);
        Check.due("pour(0, 1, 1, 0, 3)", x, x.pour(0, 1, 1, 0, 3), true, 0);
        for (int i = 0; i < 3; i++) {
            Check.due("poured " + i, x.read(1, i), i + 2);
        }
        Check.due("pour within one", x, x.pour(0, 0, 0, 1, 4), true, 0);
        long[] up = {1, 1, 2, 3, 4};
        for (int i = 0; i < 5; i++) {
            Check.due("poured up " + i, x.read(0, i), up[i]);
        }
        Check.due("pour down", x, x.pour(0, 2, 0, 0, 3), true, 0);
        long[] down = {2, 3, 4, 3, 4};
        for (int i = 0; i < 5; i++) {
            Check.due("poured down " + i, x.read(0, i), down[i]);
        }
        Check.due("no numbers at the end", x, x.pour(0, 5, 1, 3, 0), true, 0);
        Check.due("no numbers behind the end", x, x.pour(0, 6, 1, 3, 0), false, 4);
        Check.due("no numbers behind the other's end", x, x.pour(0, 5, 1, 4, 0), false, 4);
        Check.due("too many from there", x, x.pour(0, 3, 1, 0, 3), false, 4);
        Check.due("too many to there", x, x.pour(0, 0, 1, 1, 3), false, 4);
        Check.due("from below 0", x, x.pour(0, -1, 1, 0, 1), false, 4);
        Check.due("to below 0", x, x.pour(0, 0, 1, -1, 1), false, 4);
        Check.due("very many", x, x.pour(0, 1, 1, 1, Integer.MAX_VALUE), false, 4);
        Check.due("nothing was poured", x.read(1, 0), 2);
    }

    private static void pourAsksInOrder() {
        SnowForts x = new SnowForts();
        Check.due("no such tray", x, x.pour(0, 0, 4, 0, -1), false, 1);
        Check.due("no such tray from", x, x.pour(-1, 0, 0, 0, -1), false, 1);
        Check.due("both missing", x, x.pour(0, 0, 1, 0, -1), false, 3);
        x.tray(0, 1, 2);
        Check.due("one missing", x, x.pour(0, 0, 1, 0, -1), false, 3);
        Check.due("the first missing", x, x.pour(1, 0, 0, 0, -1), false, 3);
        x.tray(1, 2, 2);
        Check.due("unlike sorts", x, x.pour(0, 0, 1, 0, -1), false, 11);
        x.tray(1, 1, 2);
        Check.due("below 0", x, x.pour(0, 9, 1, 0, -1), false, 6);
        Check.due("no such place", x, x.pour(0, 9, 1, 0, 1), false, 4);
    }
}
