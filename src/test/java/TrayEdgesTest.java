/** Promises 1 to 8, sentence by sentence: the first and the last tray, sort, length, place, number; what is cut. */
public final class TrayEdgesTest {
    private static final int LEAST = Integer.MIN_VALUE;
    private static final int GREATEST = Integer.MAX_VALUE;

    public static void main(String[] args) {
        whichTrays();
        whichSorts();
        howManyNumbers();
        firstStatusOfTray();
        allNumbersAreZero();
        refusedTrayStays();
        whichPlaces();
        noPlaceInAnEmptyTray();
        firstStatusOfPlace();
        cutTo8Bits();
        cutTo16Bits();
        cutTo32Bits();
        all64Bits();
        noneFromMinusOne();
        pourAllSixty();
        pourNoNumbers();
        pourPlaces();
        pourStepsOverItself();
        pourOrder();
        pourSorts();
        refusedPourStays();
        statusOfTheLatest();
        callsWithoutStatus();
        fractionOfANewObject();
        Check.end("TrayEdgesTest");
    }

    private static void whichTrays() {
        for (int tray : new int[] {LEAST, -1, 4, 5, GREATEST}) {
            SnowForts x = new SnowForts();
            Check.due("tray " + tray, x, x.tray(tray, 0, 1), false, 1);
            Check.due("write to " + tray, x, x.write(tray, 0, 1), false, 1);
            Check.due("read of " + tray, x, x.read(tray, 0), -1, 1);
            x.tray(0, 0, 1);
            Check.due("pour from " + tray, x, x.pour(tray, 0, 0, 0, 1), false, 1);
            Check.due("pour to " + tray, x, x.pour(0, 0, tray, 0, 1), false, 1);
        }
        for (int tray = 0; tray <= 3; tray++) {
            SnowForts x = new SnowForts();
            Check.due("tray " + tray, x, x.tray(tray, 0, 1), true, 0);
            for (int other = 0; other <= 3; other++) {
                Check.due("is it there: " + other, x, x.read(other, 0), other == tray ? 0 : -1, other == tray ? 0 : 3);
            }
        }
    }

    private static void whichSorts() {
        SnowForts x = new SnowForts();
        for (int sort : new int[] {LEAST, -1, 4, 5, GREATEST}) {
            Check.due("sort " + sort, x, x.tray(0, sort, 1), false, 1);
            Check.due("still missing", x, x.read(0, 0), -1, 3);
        }
        for (int sort = 0; sort <= 3; sort++) {
            Check.due("sort " + sort, x, x.tray(0, sort, 1), true, 0);
        }
    }

    private static void howManyNumbers() {
        SnowForts x = new SnowForts();
        for (int many : new int[] {61, 62, 256 + 5, 65536, GREATEST}) {
            Check.due("a row of " + many, x, x.tray(1, 2, many), false, 5);
        }
        for (int many : new int[] {-1, -2, -60, LEAST}) {
            Check.due("a row of " + many, x, x.tray(1, 2, many), false, 6);
        }
        Check.due("still missing", x, x.read(1, 0), -1, 3);
        for (int many : new int[] {0, 1, 59, 60}) {
            Check.due("a row of " + many, x, x.tray(1, 2, many), true, 0);
            Check.due("its last place", x, x.read(1, many - 1), many == 0 ? -1 : 0, many == 0 ? 4 : 0);
            Check.due("none behind it", x, x.read(1, many), -1, 4);
        }
    }

    private static void firstStatusOfTray() {
        SnowForts x = new SnowForts();
        Check.due("no such tray, sort, too many", x, x.tray(4, 4, 61), false, 1);
        Check.due("no such tray, below 0", x, x.tray(-1, 0, -1), false, 1);
        Check.due("no such sort, too many", x, x.tray(0, 4, 61), false, 1);
        Check.due("no such sort, below 0", x, x.tray(0, -1, -1), false, 1);
    }

    private static void allNumbersAreZero() {
        SnowForts x = new SnowForts();
        x.tray(2, 3, 60);
        for (int i = 0; i < 60; i++) {
            x.write(2, i, -1 - i);
        }
        Check.due("made anew", x, x.tray(2, 3, 60), true, 0);
        for (int i = 0; i < 60; i++) {
            Check.due("place " + i, x, x.read(2, i), 0, 0);
        }
        x.write(2, 59, 7);
        x.tray(2, 3, 1);
        x.tray(2, 3, 60);
        Check.due("shorter, then longer again", x, x.read(2, 59), 0, 0);
    }

    private static void refusedTrayStays() {
        SnowForts x = new SnowForts();
        x.tray(0, 1, 2);
        x.write(0, 1, 300);
        x.tray(0, 0, 61);
        x.tray(0, 0, -1);
        x.tray(0, 4, 1);
        Check.due("its number", x, x.read(0, 1), 300, 0);
        Check.due("its length", x, x.read(0, 2), -1, 4);
        x.write(0, 0, 32768 + 65536);
        Check.due("its sort", x, x.read(0, 0), -32768, 0);
    }

    private static void whichPlaces() {
        SnowForts x = new SnowForts();
        x.tray(3, 3, 60);
        for (int place : new int[] {LEAST, -60, -1, 60, 61, 256, GREATEST}) {
            Check.due("write at " + place, x, x.write(3, place, 9), false, 4);
            Check.due("read at " + place, x, x.read(3, place), -1, 4);
        }
        for (int place : new int[] {0, 1, 58, 59}) {
            Check.due("write at " + place, x, x.write(3, place, place + 5), true, 0);
        }
        for (int place = 0; place < 60; place++) {
            int due = place <= 1 || place >= 58 ? place + 5 : 0;
            Check.due("read at " + place, x, x.read(3, place), due, 0);
        }
        x.tray(3, 3, 4);
        Check.due("the last of four", x, x.write(3, 3, 1), true, 0);
        Check.due("behind the last of four", x, x.write(3, 4, 1), false, 4);
    }

    private static void noPlaceInAnEmptyTray() {
        SnowForts x = new SnowForts();
        x.tray(0, 0, 0);
        Check.due("write to a row of none", x, x.write(0, 0, 1), false, 4);
        Check.due("read of a row of none", x, x.read(0, 0), -1, 4);
        Check.due("below it", x, x.read(0, -1), -1, 4);
        Check.due("pour of none", x, x.pour(0, 0, 0, 0, 0), true, 0);
        Check.due("pour of one", x, x.pour(0, 0, 0, 0, 1), false, 4);
    }

    private static void firstStatusOfPlace() {
        SnowForts x = new SnowForts();
        Check.due("no such tray, no place", x, x.write(4, -1, 1), false, 1);
        Check.due("no such tray, no place", x, x.read(-1, 60), -1, 1);
        Check.due("missing, no place", x, x.write(3, -1, 1), false, 3);
        Check.due("missing, no place", x, x.read(3, 60), -1, 3);
    }

    private static void cut(int sort, long v, long due) {
        SnowForts x = new SnowForts();
        x.tray(sort, sort, 3);
        Check.due("write " + v, x, x.write(sort, 1, v), true, 0);
        Check.due(v + " cut by sort " + sort, x, x.read(sort, 1), due, 0);
        Check.due("ahead of it", x, x.read(sort, 0), 0, 0);
        Check.due("behind it", x, x.read(sort, 2), 0, 0);
    }

    private static void cutTo8Bits() {
        long[][] rows = {{127, 127}, {128, -128}, {129, -127}, {255, -1}, {256, 0}, {257, 1}, {383, 127}, {384, -128},
            {-1, -1}, {-128, -128}, {-129, 127}, {-256, 0}, {32768, 0}, {1L << 40, 0}, {(1L << 40) + 200, -56},
            {Long.MAX_VALUE, -1}, {Long.MIN_VALUE, 0}};
        for (long[] row : rows) {
            cut(0, row[0], row[1]);
        }
    }

    private static void cutTo16Bits() {
        long[][] rows = {{127, 127}, {128, 128}, {255, 255}, {32767, 32767}, {32768, -32768}, {65535, -1}, {65536, 0},
            {65537, 1}, {-32768, -32768}, {-32769, 32767}, {1L << 40, 0}, {Long.MAX_VALUE, -1}, {Long.MIN_VALUE, 0}};
        for (long[] row : rows) {
            cut(1, row[0], row[1]);
        }
    }

    private static void cutTo32Bits() {
        long[][] rows = {{32768, 32768}, {65536, 65536}, {2147483647L, 2147483647L}, {2147483648L, -2147483648L},
            {4294967295L, -1}, {4294967296L, 0}, {4294967297L, 1}, {-2147483648L, -2147483648L},
            {-2147483649L, 2147483647L}, {Long.MAX_VALUE, -1}, {Long.MIN_VALUE, 0}};
        for (long[] row : rows) {
            cut(2, row[0], row[1]);
        }
    }

    private static void all64Bits() {
        for (long v : new long[] {0, -1, 2147483648L, -2147483649L, 4294967296L, Long.MAX_VALUE, Long.MIN_VALUE}) {
            cut(3, v, v);
        }
    }

    /** A number -1 and NONE are told from one another by STATUS alone. */
    private static void noneFromMinusOne() {
        SnowForts x = new SnowForts();
        x.tray(0, 0, 1);
        x.write(0, 0, 255);
        Check.due("a number -1", x, x.read(0, 0), -1, 0);
        Check.due("NONE", x, x.read(0, 1), -1, 4);
        Check.due("a number -1 behind NONE", x, x.read(0, 0), -1, 0);
    }

    private static void fill(SnowForts x, int tray, int sort, int many, int first) {
        x.tray(tray, sort, many);
        for (int i = 0; i < many; i++) {
            x.write(tray, i, first + i);
        }
    }

    private static void expect(String why, SnowForts x, int tray, int... numbers) {
        for (int i = 0; i < numbers.length; i++) {
            Check.due(why + ", place " + i, x, x.read(tray, i), numbers[i], 0);
        }
        Check.due(why + ", its length", x, x.read(tray, numbers.length), -1, 4);
    }

    private static void pourAllSixty() {
        for (int sort = 0; sort <= 3; sort++) {
            SnowForts x = new SnowForts();
            fill(x, 0, sort, 60, -30);
            x.tray(3, sort, 60);
            Check.due("60 to 60", x, x.pour(0, 0, 3, 0, 60), true, 0);
            for (int i = 0; i < 60; i++) {
                Check.due("poured", x, x.read(3, i), i - 30, 0);
                Check.due("they stay", x, x.read(0, i), i - 30, 0);
            }
            Check.due("61 of 60", x, x.pour(0, 0, 3, 0, 61), false, 4);
            Check.due("the last one", x, x.pour(0, 59, 3, 0, 1), true, 0);
            Check.due("the last one", x, x.read(3, 0), 29, 0);
        }
    }

    /** With 0 numbers the place just behind the last is one yet, that above is none. */
    private static void pourNoNumbers() {
        SnowForts x = new SnowForts();
        fill(x, 0, 0, 5, 1);
        fill(x, 1, 0, 3, 11);
        for (int i = 0; i <= 5; i++) {
            for (int j = 0; j <= 3; j++) {
                Check.due("no numbers, from " + i + " to " + j, x, x.pour(0, i, 1, j, 0), true, 0);
            }
        }
        for (int wrong : new int[] {LEAST, -1, 6, GREATEST}) {
            Check.due("no numbers, from " + wrong, x, x.pour(0, wrong, 1, 0, 0), false, 4);
            Check.due("no numbers, to " + wrong, x, x.pour(0, 0, 1, wrong, 0), false, 4);
        }
        Check.due("no numbers, to 4 of 3", x, x.pour(0, 0, 1, 4, 0), false, 4);
        expect("no numbers", x, 0, 1, 2, 3, 4, 5);
        expect("no numbers", x, 1, 11, 12, 13);
    }

    private static void pourPlaces() {
        SnowForts x = new SnowForts();
        fill(x, 0, 2, 5, 1);
        fill(x, 1, 2, 3, 11);
        int[][] wrong = {{-1, 0, 1}, {0, -1, 1}, {5, 0, 1}, {0, 3, 1}, {3, 0, 3}, {0, 1, 3}, {0, 0, 4}, {2, 0, 4}, {0, 0, 6},
            {1, 0, GREATEST}, {0, 1, GREATEST}, {GREATEST, 0, 1}, {0, GREATEST, 1}, {GREATEST, 0, GREATEST},
            {LEAST, 0, 1}, {0, LEAST, 1}, {LEAST, LEAST, GREATEST}};
        for (int[] w : wrong) {
            Check.due("pour(0, " + w[0] + ", 1, " + w[1] + ", " + w[2] + ")", x, x.pour(0, w[0], 1, w[1], w[2]), false, 4);
        }
        expect("from", x, 0, 1, 2, 3, 4, 5);
        expect("to", x, 1, 11, 12, 13);
        Check.due("up to both ends", x, x.pour(0, 2, 1, 0, 3), true, 0);
        expect("to", x, 1, 3, 4, 5);
        Check.due("one to the last place", x, x.pour(0, 0, 1, 2, 1), true, 0);
        expect("to", x, 1, 3, 4, 1);
        expect("from", x, 0, 1, 2, 3, 4, 5);
    }

    /** Within one tray the numbers come as they were, whichever way they go. */
    private static void pourStepsOverItself() {
        SnowForts x = new SnowForts();
        fill(x, 2, 1, 6, 1);
        Check.due("one up", x, x.pour(2, 0, 2, 1, 5), true, 0);
        expect("one up", x, 2, 1, 1, 2, 3, 4, 5);
        fill(x, 2, 1, 6, 1);
        Check.due("one down", x, x.pour(2, 1, 2, 0, 5), true, 0);
        expect("one down", x, 2, 2, 3, 4, 5, 6, 6);
        fill(x, 2, 1, 6, 1);
        Check.due("two up", x, x.pour(2, 0, 2, 2, 4), true, 0);
        expect("two up", x, 2, 1, 2, 1, 2, 3, 4);
        Check.due("where they are", x, x.pour(2, 0, 2, 0, 6), true, 0);
        expect("where they are", x, 2, 1, 2, 1, 2, 3, 4);
        Check.due("seven of six", x, x.pour(2, 0, 2, 0, 7), false, 4);
        Check.due("above the end", x, x.pour(2, 0, 2, 2, 5), false, 4);
    }

    /** 1, 3 (either), 11, 6, 4: each holds together with all behind it. */
    private static void pourOrder() {
        SnowForts x = new SnowForts();
        x.tray(0, 0, 2);
        x.tray(1, 1, 2);
        x.tray(2, 0, 2);
        Check.due("1 ahead of 3, 6, 4", x, x.pour(3, 9, 4, 9, -1), false, 1);
        Check.due("1 ahead of 3, 6, 4", x, x.pour(-1, 9, 3, 9, -1), false, 1);
        Check.due("1 ahead of 6", x, x.pour(0, 0, 4, 0, -1), false, 1);
        Check.due("1 ahead of 4", x, x.pour(0, 9, 4, 9, 1), false, 1);
        Check.due("3 ahead of 6, 4", x, x.pour(3, 9, 0, 9, -1), false, 3);
        Check.due("3 ahead of 6, 4", x, x.pour(1, 9, 3, 9, -1), false, 3);
        Check.due("3 ahead of 4", x, x.pour(0, 9, 3, 9, 1), false, 3);
        Check.due("3 ahead of 11: the row that is missing has another sort", x, x.pour(1, 0, 3, 0, 0), false, 3);
        Check.due("11 ahead of 6, 4", x, x.pour(0, 9, 1, 9, -1), false, 11);
        Check.due("11 ahead of 6", x, x.pour(1, 0, 0, 0, -1), false, 11);
        Check.due("11 ahead of 4", x, x.pour(0, 9, 1, 9, 1), false, 11);
        Check.due("11 with 0 numbers", x, x.pour(0, 0, 1, 0, 0), false, 11);
        Check.due("6 ahead of 4", x, x.pour(0, 9, 2, -9, -1), false, 6);
        Check.due("6 of the least int", x, x.pour(0, 9, 2, 9, LEAST), false, 6);
        Check.due("6 within one tray", x, x.pour(0, 0, 0, 0, -1), false, 6);
        Check.due("4 at last", x, x.pour(0, 3, 2, 0, 0), false, 4);
    }

    private static void pourSorts() {
        SnowForts x = new SnowForts();
        for (int tray = 0; tray <= 3; tray++) {
            x.tray(tray, tray, 1);
        }
        for (int from = 0; from <= 3; from++) {
            for (int to = 0; to <= 3; to++) {
                Check.due("sort " + from + " to " + to, x, x.pour(from, 0, to, 0, 1), from == to, from == to ? 0 : 11);
            }
        }
    }

    private static void refusedPourStays() {
        SnowForts x = new SnowForts();
        fill(x, 0, 0, 3, 1);
        fill(x, 1, 0, 3, 11);
        fill(x, 2, 1, 3, 21);
        x.pour(0, 0, 2, 0, 3);
        x.pour(0, 0, 1, 0, -1);
        x.pour(0, 1, 1, 0, 3);
        x.pour(0, 0, 1, 1, 3);
        x.pour(0, 0, 3, 0, 1);
        expect("tray 0", x, 0, 1, 2, 3);
        expect("tray 1", x, 1, 11, 12, 13);
        expect("tray 2", x, 2, 21, 22, 23);
        Check.due("tray 3", x, x.read(3, 0), -1, 3);
    }

    private static void statusOfTheLatest() {
        SnowForts x = new SnowForts();
        Check.due("a new object", x.status(), 0);
        x.read(4, 0);
        Check.due("1", x.status(), 1);
        x.cell(0, 1, 0);
        Check.due("2", x.status(), 2);
        x.read(0, 0);
        Check.due("3", x.status(), 3);
        x.tray(0, 0, 0);
        Check.due("0 again", x.status(), 0);
        x.read(0, 0);
        Check.due("4", x.status(), 4);
        x.many(10);
        Check.due("5", x.status(), 5);
        x.tray(0, 0, -1);
        Check.due("6", x.status(), 6);
        for (int i = 0; i < 4; i++) {
            x.mark();
        }
        Check.due("7", x.status(), 7);
        x.run(0);
        Check.due("8", x.status(), 8);
        x.sure(0, 1);
        Check.due("9", x.status(), 9);
        x.yard(0);
        Check.due("10", x.status(), 10);
        x.tray(1, 1, 0);
        x.pour(0, 0, 1, 0, 0);
        Check.due("11", x.status(), 11);
    }

    /** status(), fault(), feed(), top(), bottom() have none: that ahead of them is told behind them, whatever it was. */
    private static void callsWithoutStatus() {
        SnowForts x = new SnowForts();
        for (int round = 0; round < 2; round++) {
            int due = round == 0 ? 11 : 0;
            x.tray(0, 0, 0);
            x.tray(1, 1, 0);
            if (due == 11) {
                x.pour(0, 0, 1, 0, 0);
            }
            x.status();
            Check.due("status()", x.status(), due);
            x.fault(0);
            x.fault(1);
            x.fault(2);
            x.fault(-1);
            Check.due("fault()", x.status(), due);
            x.top();
            x.bottom();
            Check.due("top(), bottom()", x.status(), due);
            for (int i = 0; i < 45; i++) {
                x.feed(0, 0, 0, 0, 0);
            }
            Check.due("feed()", x.status(), due);
            Check.due("feed() above 900", x.feed(0, 0, 0, 0, 0), -1);
            Check.due("feed() above 900", x.status(), due);
            x.yard(900);
        }
    }

    private static void fractionOfANewObject() {
        SnowForts x = new SnowForts();
        Check.due("top()", x.top(), 0);
        Check.due("bottom()", x.bottom(), 1);
        x.stands(1, 1, 0);
        x.mean(1, 1, 4);
        x.peaces(0, 1);
        Check.due("top() behind what is refused", x.top(), 0);
        Check.due("bottom() behind what is refused", x.bottom(), 1);
    }
}
