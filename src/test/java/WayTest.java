import java.util.Random;

/** Promises 32 to 34: the way over, by known yards and by all the ways of small ones. */
public final class WayTest {
    private static int wide;
    private static int high;
    private static int[][] tops;
    private static boolean[][] seen;
    private static int bestCost;
    private static String bestWay;

    public static void main(String[] args) {
        flatWays();
        stepsDown();
        firstOfSeveral();
        windingWay();
        wayAtTells();
        peaceIsTold();
        waysByTrials();
        Check.end("WayTest");
    }

    private static void flatWays() {
        SnowForts x = Check.forts("wide 6 high 6;");
        Check.due("way()", x, x.way(), 0, 0);
        for (int k = 0; k < 6; k++) {
            Check.due("wayAt(" + k + ", 0)", x, x.wayAt(k, 0), k, 0);
            Check.due("wayAt(" + k + ", 1)", x, x.wayAt(k, 1), 0, 0);
        }
        Check.due("wayAt(6, 0)", x, x.wayAt(6, 0), -1, 8);
        // a wall of snow with one gap below
        x = Check.forts("wide 4 high 3;snow 1 0 deep 9;wall 1 1 tall 9;");
        Check.due("below the wall", x, x.way(), 0, 0);
        Check.due("from the left edge", x.wayAt(0, 1), 2);
    }

    private static void stepsDown() {
        Check.due("down by 3", Check.forts("wide 2 high 1;snow 0 0 deep 3;").way(), 3);
        Check.due("down by 4", Check.forts("wide 2 high 1;snow 0 0 deep 4;").way(), 6);
        Check.due("down out of the yard by 3", Check.forts("wide 2 high 1;snow 1 0 deep 3;").way(), 3);
        Check.due("down out of the yard by 4", Check.forts("wide 2 high 1;wall 1 0 tall 4;").way(), 6);
        Check.due("down by steps", Check.forts("wide 2 high 1;snow 0 0 deep 6;wall 1 0 tall 3;").way(), 6);
        Check.due("all tops", Check.forts("wide 2 high 1;snow 0 0 deep 50;wall 0 0 tall 60;snow 1 0 deep 99;wall 1 0 tall 99;")
            .way(), 200);
    }

    private static void firstOfSeveral() {
        // both rows cost nothing: the first y
        SnowForts x = Check.forts("wide 2 high 3;wall 0 0 tall 1;");
        x.way();
        Check.due("the first y", x.wayAt(0, 1), 1);
        // the fewest cells of the least cost: 3 up at once, or by two rows
        x = Check.forts("wide 4 high 2;snow 1 0 deep 1;");
        Check.due("a row that costs nothing", x.way(), 0);
        Check.due("its y", x.wayAt(0, 1), 1);
        Check.due("its cells", x.wayAt(4, 0), -1);
        // the gap leads down, not up: only by leaving the first row
        x = Check.forts("wide 4 high 3;wall 0 0 tall 9;wall 0 2 tall 9;wall 1 1 tall 9;wall 3 0 tall 9;wall 3 1 tall 9;");
        Check.due("9 up, and 2 for the step down", x.way(), 11);
        x = Check.forts("wide 2 high 3;wall 0 0 tall 9;wall 0 2 tall 9;wall 1 1 tall 9;");
        x.way();
        Check.due("straight on, by fewer cells", x.wayAt(2, 0), -1);
        x = Check.forts("wide 4 high 3;wall 0 0 tall 9;wall 0 2 tall 9;wall 2 1 tall 9;");
        Check.due("around", x.way(), 0);
        int[] xs = {0, 1, 1, 2, 3};
        int[] ys = {1, 1, 2, 2, 2};
        for (int k = 0; k < 5; k++) {
            Check.due("down ahead of up: x " + k, x.wayAt(k, 0), xs[k]);
            Check.due("down ahead of up: y " + k, x.wayAt(k, 1), ys[k]);
        }
        Check.due("no more cells", x.wayAt(5, 0), -1);
    }

    /** A yard of walls with one path that turns back to the left. */
    private static void windingWay() {
        String[] rows = {"0 1 2 3 4", "4", "1 2 3 4", "1", "1 2 3 4 5"};
        SnowForts x = new SnowForts();
        StringBuilder text = new StringBuilder("wide 6 high 5;");
        for (int y = 0; y < 5; y++) {
            for (int column = 0; column < 6; column++) {
                if (rows[y].indexOf('0' + column) < 0) {
                    text.append("wall ").append(column).append(' ').append(y).append(" tall 99;");
                }
            }
        }
        Check.due("taken", Check.yard(x, text.toString()), 30);
        Check.due("no cost", x, x.way(), 0, 0);
        String way = "00 10 20 30 40 41 42 32 22 12 13 14 24 34 44 54";
        for (int k = 0; k < 16; k++) {
            Check.due("winding: x " + k, x.wayAt(k, 0), way.charAt(3 * k) - '0');
            Check.due("winding: y " + k, x.wayAt(k, 1), way.charAt(3 * k + 1) - '0');
        }
        Check.due("its cells", x, x.wayAt(16, 0), -1, 8);
    }

    private static void wayAtTells() {
        SnowForts x = Check.forts("wide 2 high 2;");
        Check.due("not asked", x, x.wayAt(0, 0), -1, 8);
        x.peace();
        Check.due("peace() does not ask", x, x.wayAt(0, 0), -1, 8);
        x.fall(3);
        x.way();
        Check.due("wayAt(0, -1)", x, x.wayAt(0, -1), -1, 5);
        Check.due("wayAt(9, 2)", x, x.wayAt(9, 2), -1, 5);
        Check.due("wayAt(-1, 0)", x, x.wayAt(-1, 0), -1, 8);
        Check.due("wayAt(2, 0)", x, x.wayAt(2, 0), -1, 8);
        Check.yard(x, "wide 4 high 3;wall 0 0 tall 9;");
        x.peace();
        Check.due("by the latest way()", x, x.wayAt(1, 0), 1, 0);
        Check.due("by the latest way()", x, x.wayAt(2, 0), -1, 8);
        x.way();
        Check.due("by the next one", x, x.wayAt(3, 0), 3, 0);
        Check.due("by the next one", x, x.wayAt(3, 1), 1, 0);
        Check.due("no more cells than its own", x, x.wayAt(4, 0), -1, 8);
        Check.yard(x, "wide 2 high 1;");
        x.way();
        Check.due("a shorter one", x, x.wayAt(2, 0), -1, 8);
        Check.yard(x, "wide 6 high 1;");
        x.way();
        Check.due("only wider", x, x.wayAt(5, 0), 5, 0);
        Check.yard(x, "wide 6 high 2;snow 0 0 deep 1;");
        x.way();
        Check.due("another row", x, x.wayAt(5, 1), 1, 0);
    }

    private static void peaceIsTold() {
        Check.due("a new one", new SnowForts().peace(), 1);
        SnowForts x = Check.forts("wide 2 high 1;snow 0 0 deep 2;snow 1 0 deep 4;");
        Check.due("4 up, 4 down", x, x.peace(), 0, 0);
        x = Check.forts("wide 2 high 2;snow 0 0 deep 4;snow 1 0 deep 3;snow 0 1 deep 9;");
        Check.due("a cost of 4", x, x.peace(), 1, 0);
        x.fall(1);
        Check.due("a cost of more", x, x.peace(), 0, 0);
    }

    private static int step(int from, int to) {
        return to > from ? to - from : from - to > 3 ? 2 : 0;
    }

    /** All ways on, without a cell twice: words of y, then of steps, that are in order as texts. */
    private static void walk(int x, int y, int cost, String way) {
        if (cost > bestCost) {
            return;
        }
        seen[x][y] = true;
        if (x == wide - 1) {
            int whole = cost + step(tops[x][y], 0);
            boolean shorter = bestWay == null || way.length() < bestWay.length()
                || way.length() == bestWay.length() && way.compareTo(bestWay) < 0;
            if (whole < bestCost || whole == bestCost && shorter) {
                bestCost = whole;
                bestWay = way;
            }
        }
        int[] right = {1, 0, 0, -1};
        int[] down = {0, 1, -1, 0};
        for (int i = 0; i < 4; i++) {
            int a = x + right[i];
            int b = y + down[i];
            if (a >= 0 && a < wide && b >= 0 && b < high && !seen[a][b]) {
                walk(a, b, cost + step(tops[x][y], tops[a][b]), way + i);
            }
        }
        seen[x][y] = false;
    }

    private static void waysByTrials() {
        Random random = new Random(9);
        for (int trial = 0; trial < 1200; trial++) {
            wide = trial % 4 == 3 ? 6 : 2 + 2 * random.nextInt(2);
            high = 1 + random.nextInt(wide == 6 ? 3 : 4);
            int limit = 2 + random.nextInt(12);
            tops = new int[wide][high];
            seen = new boolean[wide][high];
            StringBuilder text = new StringBuilder("wide " + wide + " high " + high + ";");
            for (int x = 0; x < wide; x++) {
                for (int y = 0; y < high; y++) {
                    int snow = random.nextInt(limit);
                    int wall = random.nextInt(4) == 0 ? random.nextInt(10) : 0;
                    tops[x][y] = snow + wall;
                    text.append("snow ").append(x).append(' ').append(y).append(" deep ").append(snow).append(';');
                    if (wall > 0) {
                        text.append("wall ").append(x).append(' ').append(y).append(" tall ").append(wall).append(';');
                    }
                }
            }
            bestCost = 9999;
            bestWay = null;
            for (int y = 0; y < high; y++) {
                walk(0, y, step(0, tops[0][y]), "" + y);
            }
            checkWay(text.toString());
        }
    }

    private static void checkWay(String text) {
        SnowForts forts = Check.forts(text);
        Check.due("way() of " + text, forts, forts.way(), bestCost, 0);
        Check.due("peace() of " + text, forts, forts.peace(), bestCost <= 4 ? 1 : 0, 0);
        int x = 0;
        int y = bestWay.charAt(0) - '0';
        for (int k = 0; k < bestWay.length(); k++) {
            if (k > 0) {
                int step = bestWay.charAt(k) - '0';
                x += step == 0 ? 1 : step == 3 ? -1 : 0;
                y += step == 1 ? 1 : step == 2 ? -1 : 0;
            }
            Check.due("wayAt(" + k + ", 0) of " + text, forts.wayAt(k, 0), x);
            Check.due("wayAt(" + k + ", 1) of " + text, forts.wayAt(k, 1), y);
        }
        Check.due("cells of " + text, forts, forts.wayAt(bestWay.length(), 0), -1, 8);
    }
}
