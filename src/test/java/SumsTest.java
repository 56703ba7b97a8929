import java.util.Random;

/** Promises 38 to 43: mornings, the game of two walls, odds. */
public final class SumsTest {
    public static void main(String[] args) {
        worksAreTold();
        worksRefused();
        worksByTrials();
        gameIsTold();
        gameByTrials();
        oddsAreTold();
        oddsRefused();
        oddsByTrials();
        Check.end("SumsTest");
    }

    private static void worksAreTold() {
        SnowForts x = new SnowForts();
        Check.row(x, 0, 5, 5, 14, 0, 0, 3);
        Check.row(x, 1, 0, 0, 20, 9, 4);
        Check.due("six mornings", x, x.works(0, 1, 6), 1 * 1 * 7 * 10, 0);
        Check.due("the fewest", x, x.worked(0), 0 + 9 + 0 + 0 + 7, 0);
        Check.due("the most", x, x.worked(1), 0 + 9 + 6 + 9 + 7, 0);
        Check.due("the night", x, x.worked(2), 1, 0);
        Check.due("two mornings", x, x.works(0, 1, 2), 1, 0);
        Check.due("no units", x, x.worked(0), 0, 0);
        Check.due("no units", x, x.worked(1), 0, 0);
        Check.due("of several the first", x, x.worked(2), 0, 0);
        Check.due("worked(3)", x, x.worked(3), -1, 5);
        Check.due("worked(-1)", x, x.worked(-1), -1, 5);
        x.write(0, 1, 15);
        Check.due("ten units", x, x.works(0, 1, 2), 0, 0);
        Check.due("no WORKS", x, x.worked(0), -1, 8);
        x.write(0, 1, 14);
        x.works(0, 1, 2);
        x.works(0, 1, 1);
        Check.due("by the latest with STATUS 0", x, x.worked(0), 9, 0);
        x.write(0, 1, 4);
        Check.due("less than none", x, x.works(0, 1, 2), 0, 0);
        Check.row(x, 2, 99, 99, 99, 99, 99, 99, 99, 99, 99, 99, 99, 99);
        Check.row(x, 3, 9, 9, 9, 9, 9, 9, 9, 9, 9, 9, 9);
        Check.due("a wall of 99", x, x.works(2, 3, 12), 1, 0);
        Check.due("all its units", x, x.worked(0), 99, 0);
        Check.row(x, 2, 0, 0, 0, 0, 0, 0, 0, 0, 0, 0, 0, 0);
        Check.due("all that can be", x, x.works(2, 3, 12), 100000000000L, 0);
        Check.due("the most", x, x.worked(1), 99, 0);
    }

    private static void worksRefused() {
        SnowForts x = new SnowForts();
        Check.due("worked(0)", x, x.worked(0), -1, 8);
        Check.due("no such tray", x, x.works(0, 4, 99), -1, 1);
        Check.due("no such tray", x, x.works(-1, 0, 99), -1, 1);
        Check.due("both missing", x, x.works(0, 1, 99), -1, 3);
        x.tray(0, 0, 20);
        Check.due("one missing", x, x.works(0, 1, 99), -1, 3);
        Check.due("one missing", x, x.works(1, 0, 99), -1, 3);
        x.tray(1, 0, 11);
        Check.due("too few heights", x, x.works(0, 1, 21), -1, 4);
        Check.due("too few thaws", x, x.works(0, 1, 13), -1, 4);
        Check.due("just as many", x, x.works(0, 1, 12), 1, 0);
        x.tray(1, 0, 12);
        Check.due("13", x, x.works(0, 1, 13), -1, 5);
        Check.due("1", x, x.works(0, 1, 1), -1, 5);
        Check.due("0", x, x.works(0, 1, 0), -1, 5);
        Check.due("the least int", x, x.works(0, 1, Integer.MIN_VALUE), -1, 5);
        x.write(0, 2, 100);
        Check.due("a height of 100", x, x.works(0, 1, 3), -1, 5);
        Check.due("behind those", x, x.works(0, 1, 2), 1, 0);
        x.write(0, 2, -1);
        Check.due("a height of -1", x, x.works(0, 1, 3), -1, 5);
        x.write(1, 1, 21);
        x.write(0, 2, 0);
        Check.due("a thaw of 21", x, x.works(0, 1, 3), -1, 5);
        Check.due("behind those", x, x.works(0, 1, 2), 1, 0);
        x.write(1, 1, -1);
        Check.due("a thaw of -1", x, x.works(0, 1, 3), -1, 5);
        x.write(1, 1, 20);
        Check.due("a thaw of 20", x, x.works(0, 1, 3), 10, 0);
    }

    private static void worksByTrials() {
        Random random = new Random(11);
        for (int trial = 0; trial < 800; trial++) {
            int many = 2 + random.nextInt(3);
            long[] heights = new long[many];
            long[] thaws = new long[many];
            for (int i = 0; i < many; i++) {
                heights[i] = Math.max(0, random.nextInt(16) - 5);
                thaws[i] = random.nextInt(14);
            }
            long rows = 0;
            long fewest = 999;
            long most = -1;
            int all = (int) Math.pow(10, many - 1);
            long[] least = new long[many];
            java.util.Arrays.fill(least, 99);
            for (int row = 0; row < all; row++) {
                long sum = 0;
                boolean fits = true;
                for (int night = 0, rest = row; night < many - 1; night++, rest /= 10) {
                    long units = rest % 10;
                    sum += units;
                    fits &= Math.max(0, heights[night] + units - thaws[night]) == heights[night + 1];
                }
                if (fits) {
                    rows++;
                    fewest = Math.min(fewest, sum);
                    most = Math.max(most, sum);
                    for (int night = 0, rest = row; night < many - 1; night++, rest /= 10) {
                        least[night] = Math.min(least[night], rest % 10);
                    }
                }
            }
            int hardest = 0;
            for (int night = 0; night < many - 1; night++) {
                hardest = least[night] > least[hardest] ? night : hardest;
            }
            SnowForts x = new SnowForts();
            Check.row(x, 3, heights);
            Check.row(x, 1, thaws);
            Check.due("works of trial " + trial, x, x.works(3, 1, many), rows, 0);
            Check.due("worked(0) of trial " + trial, x.worked(0), rows == 0 ? -1 : fewest);
            Check.due("worked(1) of trial " + trial, x.worked(1), rows == 0 ? -1 : most);
            Check.due("worked(2) of trial " + trial, x.worked(2), rows == 0 ? -1 : hardest);
        }
    }

    private static void gameIsTold() {
        SnowForts x = new SnowForts();
        Check.due("wins(12, 12, 4, 4)", x, x.wins(12, 12, 4, 4), 0, 0);
        Check.due("turns(12, 12, 4, 4)", x, x.turns(12, 12, 4, 4), 0, 0);
        Check.due("wins(0, 12, 1, 0)", x, x.wins(0, 12, 1, 0), 1, 0);
        Check.due("turns(0, 12, 1, 0)", x, x.turns(0, 12, 1, 0), 1, 0);
        Check.due("wins(11, 11, 1, 1)", x, x.wins(11, 11, 1, 1), 0, 0);
        Check.due("turns(11, 11, 1, 1)", x, x.turns(11, 11, 1, 1), 2, 0);
        Check.due("turns(0, 0, 4, 4)", x, x.turns(0, 0, 4, 4), 6, 0);
        int[][] wrong = {{-1, 0, 1, 0}, {13, 0, 1, 0}, {0, -1, 1, 0}, {0, 13, 1, 0}, {0, 0, 0, 0}, {0, 0, 5, 0},
            {0, 0, 1, -1}, {0, 0, 1, 5}};
        for (int[] w : wrong) {
            Check.due("wins that can't be", x, x.wins(w[0], w[1], w[2], w[3]), -1, 5);
            Check.due("turns that can't be", x, x.turns(w[0], w[1], w[2], w[3]), -1, 5);
        }
    }

    private static boolean[][][] tried = new boolean[13][13][2];

    private static boolean canWin(int own, int other, int m, int k) {
        if (!tried[own][other][0]) {
            tried[own][other][0] = true;
            tried[own][other][1] = false;
            for (int raise = 1; raise <= m; raise++) {
                int to = own + raise;
                if (to <= other + k && to <= 12 && !canWin(other, to, m, k)) {
                    tried[own][other][1] = true;
                }
            }
        }
        return tried[own][other][1];
    }

    private static int takesTurns(int own, int other, int m, int k) {
        for (int raise = m; raise > 0; raise--) {
            if (own + raise <= other + k && own + raise <= 12) {
                return 1 + takesTurns(other, own + raise, m, k);
            }
        }
        return 0;
    }

    private static void gameByTrials() {
        SnowForts x = new SnowForts();
        for (int m = 1; m <= 4; m++) {
            for (int k = 0; k <= 4; k++) {
                tried = new boolean[13][13][2];
                for (int state = 0; state < 169; state++) {
                    int a = state / 13;
                    int b = state % 13;
                    int raise = 0;
                    for (int r = m; r > 0; r--) {
                        boolean may = a + r <= b + k && a + r <= 12;
                        raise = may && !canWin(b, a + r, m, k) ? r : raise;
                    }
                    String game = "(" + a + ", " + b + ", " + m + ", " + k + ")";
                    Check.due("wins" + game, x, x.wins(a, b, m, k), raise, 0);
                    Check.due("turns" + game, x, x.turns(a, b, m, k), takesTurns(a, b, m, k), 0);
                }
            }
        }
    }

    private static void fraction(String what, SnowForts x, long top, long bottom) {
        Check.due(what + ": top()", x.top(), top);
        Check.due(what + ": bottom()", x.bottom(), bottom);
    }

    private static void oddsAreTold() {
        SnowForts x = new SnowForts();
        Check.row(x, 0, 0, 0, 0, 16, 99);
        Check.due("stands(3, 1, 0)", x, x.stands(3, 1, 0), true, 0);
        fraction("never", x, 0, 1);
        Check.due("stands(4, 1, 0)", x, x.stands(4, 1, 0), true, 0);
        fraction("surely", x, 1, 1);
        Check.due("mean(4, 1, 0)", x, x.mean(4, 1, 0), true, 0);
        fraction("1", x, 1, 1);
        Check.due("mean(99, 8, 0)", x, x.mean(99, 8, 0), true, 0);
        fraction("75", x, 75, 1);
        Check.due("mean(1, 8, 0)", x, x.mean(1, 8, 0), true, 0);
        fraction("0", x, 0, 1);
        Check.row(x, 0, 15, 1, 0, 0);
        Check.due("stands(1, 8, 0)", x, x.stands(1, 8, 0), true, 0);
        fraction("15 to the 8th", x, 2562890625L, 1L << 32);
        Check.due("mean(99, 8, 0)", x, x.mean(99, 8, 0), true, 0);
        fraction("98 and a half", x, 197, 2);
    }

    private static void oddsRefused() {
        SnowForts x = new SnowForts();
        Check.due("no such tray", x, x.stands(0, 0, 4), false, 1);
        Check.due("no such tray", x, x.mean(0, 0, -1), false, 1);
        Check.due("missing", x, x.stands(0, 0, 3), false, 3);
        Check.row(x, 0, 16, 0, 0);
        Check.due("too few numbers", x, x.mean(0, 0, 0), false, 4);
        Check.row(x, 0, 4, 4, 4, 4);
        int[][] wrong = {{0, 1}, {100, 1}, {1, 0}, {1, 9}, {-1, 1}, {1, -1}};
        for (int[] w : wrong) {
            Check.due("stands that can't be", x, x.stands(w[0], w[1], 0), false, 5);
            Check.due("mean that can't be", x, x.mean(w[0], w[1], 0), false, 5);
        }
        long[][] unfit = {{4, 4, 4, 3}, {4, 4, 4, 5}, {17, -1, 0, 0}, {-1, 17, 0, 0}, {0, 0, 0, 0},
            {Long.MAX_VALUE, Long.MAX_VALUE, 18, 0}, {16, 0, 0, 1L << 32}};
        for (long[] row : unfit) {
            Check.row(x, 0, row);
            Check.due("not so", x, x.stands(1, 1, 0), false, 5);
            Check.due("not so", x, x.mean(1, 1, 0), false, 5);
        }
        fraction("none was told", x, 0, 1);
    }

    private static void oddsByTrials() {
        Random random = new Random(12);
        for (int trial = 0; trial < 400; trial++) {
            long[] odds = new long[4];
            for (int i = 0; i < 16; i++) {
                odds[random.nextInt(random.nextInt(4) + 1)]++;
            }
            int wall = 1 + random.nextInt(12);
            int days = 1 + random.nextInt(5);
            long standing = 0;
            long sum = 0;
            for (int row = 0; row < 1 << 2 * days; row++) {
                long weight = 1;
                int left = wall;
                for (int day = 0; day < days; day++) {
                    int thaw = row >> 2 * day & 3;
                    weight *= odds[thaw];
                    left = Math.max(0, left - thaw);
                }
                standing += left > 0 ? weight : 0;
                sum += weight * left;
            }
            SnowForts x = new SnowForts();
            Check.row(x, 2, odds);
            x.stands(wall, days, 2);
            long whole = 1L << 4 * days;
            Check.due("stands, trial " + trial, x.top() * whole, standing * x.bottom());
            Check.due("stands without a common divisor", gcd(x.top(), x.bottom()), 1);
            x.mean(wall, days, 2);
            Check.due("mean, trial " + trial, x.top() * whole, sum * x.bottom());
            Check.due("mean without a common divisor", gcd(x.top(), x.bottom()), 1);
        }
    }

    private static long gcd(long a, long b) {
        return b == 0 ? a : gcd(b, a % b);
    }
}
