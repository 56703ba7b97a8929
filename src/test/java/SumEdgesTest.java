/** Promises 38 to 43, sentence by sentence: mornings, the game of two walls, odds, fractions. */
public final class SumEdgesTest {
    private static final int LEAST = Integer.MIN_VALUE;
    private static final int GREATEST = Integer.MAX_VALUE;

    public static void main(String[] args) {
        worksOfOneNight();
        worksDownToNone();
        worksUpTo99();
        worksOfManyMornings();
        worksOfWhichNumbers();
        worksFromTheSameTray();
        worksOfSorts();
        worksOfHeightsAndThaws();
        worksFirstStatus();
        allWorks();
        workedNight();
        workedByTheLatest();
        winsByOneRaise();
        winsByTheLeastRaise();
        raisesAtMost12();
        raisesAtMostTheOtherAndK();
        gameOfWhichNumbers();
        turnsByTheGreatestRaise();
        stateBetweenGames();
        oddsOfWhichWall();
        oddsOfWhichDays();
        oddsOfFourNumbers();
        oddsOfNumbersThatAreNotSo();
        oddsFirstStatus();
        standsIsAbove0();
        wallNotBelow0();
        meanTells();
        withoutACommonDivisor();
        greatestFraction();
        fractionToldLatest();
        Check.end("SumEdgesTest");
    }

    // ---- mornings

    private static void worksIs(long from, long thaw, long to, long rows) {
        SnowForts x = new SnowForts();
        Check.row(x, 0, from, to);
        Check.row(x, 1, thaw);
        String night = from + " less " + thaw + " to " + to;
        Check.due("works: " + night, x, x.works(0, 1, 2), rows, 0);
        if (rows == 0) {
            Check.due("no WORKS: " + night, x, x.worked(0), -1, 8);
            Check.due("no WORKS: " + night, x, x.worked(1), -1, 8);
            Check.due("no WORKS: " + night, x, x.worked(2), -1, 8);
        } else {
            Check.due("the fewest: " + night, x, x.worked(0), to == 0 ? 0 : to + thaw - from, 0);
            Check.due("the most: " + night, x, x.worked(1), Math.min(9, to + thaw - from), 0);
            Check.due("the night: " + night, x, x.worked(2), 0, 0);
        }
    }

    /** 0 to 9 units in a night. */
    private static void worksOfOneNight() {
        for (int units = -2; units <= 11; units++) {
            worksIs(20, 10, 10 + units, units >= 0 && units <= 9 ? 1 : 0);
            worksIs(20, 0, 20 + units, units >= 0 && units <= 9 ? 1 : 0);
        }
        worksIs(20, 20, 1, 1);
        worksIs(0, 20, 1, 0);
        worksIs(12, 20, 1, 1);
        worksIs(11, 20, 1, 0);
    }

    /** A WALL is no less than 0: so many units or fewer lead there. */
    private static void worksDownToNone() {
        for (int from = 0; from <= 22; from++) {
            worksIs(from, 20, 0, Math.max(0, Math.min(10, 20 - from + 1)));
            worksIs(from, 3, 0, Math.max(0, 3 - from + 1));
            worksIs(from, 0, 0, from == 0 ? 1 : 0);
        }
    }

    private static void worksUpTo99() {
        worksIs(99, 0, 99, 1);
        worksIs(99, 9, 99, 1);
        worksIs(99, 10, 99, 0);
        worksIs(90, 0, 99, 1);
        worksIs(89, 0, 99, 0);
        worksIs(99, 20, 79, 1);
        worksIs(99, 20, 78, 0);
        worksIs(99, 20, 88, 1);
        worksIs(99, 20, 89, 0);
    }

    private static void worksOfManyMornings() {
        SnowForts x = new SnowForts();
        x.tray(0, 3, 60);
        x.tray(1, 3, 60);
        for (int many = -2; many <= 62; many++) {
            boolean can = many >= 2 && many <= 12;
            Check.due("works of " + many, x, x.works(0, 1, many), can ? 1 : -1, can ? 0 : many > 60 ? 4 : 5);
        }
        Check.due("works of the least int", x, x.works(0, 1, LEAST), -1, 5);
        Check.due("works of the greatest int", x, x.works(0, 1, GREATEST), -1, 4);
        Check.due("works of 2 to the 32nd and 2, cut", x, x.works(0, 1, LEAST + 2), -1, 5);
    }

    /** The first so many heights, and one fewer of the thaws: what is behind them does not count. */
    private static void worksOfWhichNumbers() {
        SnowForts x = new SnowForts();
        Check.row(x, 0, 5, 7, 999);
        Check.row(x, 1, 1, -1);
        Check.due("two mornings", x, x.works(0, 1, 2), 1, 0);
        Check.due("the units", x, x.worked(0), 3, 0);
        Check.due("the third can't be", x, x.works(0, 1, 3), -1, 5);
        Check.row(x, 0, 5, 7);
        Check.row(x, 1, 1);
        Check.due("just so many", x, x.works(0, 1, 2), 1, 0);
        Check.due("one too few of both", x, x.works(0, 1, 3), -1, 4);
        Check.row(x, 0, 5, 7, 8);
        Check.due("one THAW too few", x, x.works(0, 1, 3), -1, 4);
        Check.row(x, 1, 1, 0);
        Check.due("so many and one fewer", x, x.works(0, 1, 3), 1, 0);
        x.tray(1, 3, 0);
        Check.due("no THAW", x, x.works(0, 1, 2), -1, 4);
        Check.due("no THAW for one morning", x, x.works(0, 1, 1), -1, 5);
        x.tray(0, 3, 0);
        Check.due("no heights for one morning", x, x.works(0, 1, 1), -1, 4);
        Check.due("no heights for none", x, x.works(0, 1, 0), -1, 5);
    }

    private static void worksFromTheSameTray() {
        SnowForts x = new SnowForts();
        Check.row(x, 2, 10, 4, 0, 3);
        // 10 to 4 by a THAW of 10, 4 to 0 by one of 4, 0 to 3 by one of 0
        Check.due("one TRAY for both", x, x.works(2, 2, 4), 1, 0);
        Check.due("the units", x, x.worked(1), 4 + 0 + 3, 0);
    }

    private static void worksOfSorts() {
        for (int sort = 0; sort <= 3; sort++) {
            SnowForts x = new SnowForts();
            x.tray(0, sort, 2);
            x.tray(1, 3 - sort, 1);
            x.write(0, 0, 99);
            x.write(0, 1, 88);
            x.write(1, 0, 20);
            Check.due("any sorts", x, x.works(0, 1, 2), 1, 0);
        }
    }

    private static void worksOfHeightsAndThaws() {
        SnowForts x = new SnowForts();
        for (long height : new long[] {Long.MIN_VALUE, -1, 0, 1, 98, 99, 100, 256, 1L << 32, Long.MAX_VALUE}) {
            boolean can = height >= 0 && height <= 99;
            for (int place = 0; place < 3; place++) {
                Check.row(x, 0, height, height, height);
                Check.row(x, 1, 0, 0);
                for (int other = 0; other < 3; other++) {
                    x.write(0, other, other == place ? height : 50);
                }
                x.works(0, 1, 3);
                Check.due("a height of " + height + " at " + place, x.status(), can ? 0 : 5);
            }
        }
        for (long thaw : new long[] {Long.MIN_VALUE, -1, 0, 1, 19, 20, 21, 256, 1L << 32, Long.MAX_VALUE}) {
            boolean can = thaw >= 0 && thaw <= 20;
            for (int place = 0; place < 2; place++) {
                Check.row(x, 0, 50, 50, 50);
                Check.row(x, 1, 0, 0);
                x.write(1, place, thaw);
                x.works(0, 1, 3);
                Check.due("a THAW of " + thaw + " at " + place, x.status(), can ? 0 : 5);
            }
        }
    }

    private static void worksFirstStatus() {
        SnowForts x = new SnowForts();
        Check.due("1 ahead of 3", x, x.works(0, 4, 2), -1, 1);
        Check.due("1 ahead of 3", x, x.works(4, 0, 2), -1, 1);
        Check.due("3 ahead of 5", x, x.works(0, 1, 1), -1, 3);
        x.tray(0, 3, 1);
        Check.due("3 ahead of 4", x, x.works(0, 1, 2), -1, 3);
        Check.due("3 ahead of 4", x, x.works(1, 0, 2), -1, 3);
        x.tray(1, 3, 12);
        x.write(0, 0, 100);
        Check.due("4 ahead of 5: a height", x, x.works(0, 1, 2), -1, 4);
        Check.due("4 ahead of 5: so many", x, x.works(0, 1, 13), -1, 4);
        x.write(1, 0, 21);
        x.tray(0, 3, 13);
        Check.due("4 ahead of 5: a THAW", x, x.works(0, 1, 14), -1, 4);
    }

    private static void allWorks() {
        SnowForts x = new SnowForts();
        x.tray(0, 0, 12);
        x.tray(1, 0, 11);
        for (int night = 0; night < 11; night++) {
            x.write(1, night, 9);
        }
        long rows = 1;
        for (int many = 2; many <= 12; many++) {
            rows *= 10;
            Check.due("all of them", x, x.works(0, 1, many), rows, 0);
            Check.due("the fewest", x, x.worked(0), 0, 0);
            Check.due("the most", x, x.worked(1), 9 * (many - 1), 0);
            Check.due("the night", x, x.worked(2), 0, 0);
        }
    }

    /** Of several the first; by the fewest that must have been built, not by the most that may. */
    private static void workedNight() {
        SnowForts x = new SnowForts();
        for (int night = 0; night < 11; night++) {
            x.tray(0, 3, 12);
            x.tray(1, 3, 11);
            for (int i = 0; i < 12; i++) {
                x.write(0, i, i <= night ? 20 : 25);
            }
            x.works(0, 1, 12);
            Check.due("one night alone", x, x.worked(2), night, 0);
        }
        Check.row(x, 0, 10, 12, 14, 16, 15);
        Check.row(x, 1, 0, 0, 0, 1);
        x.works(0, 1, 5);
        Check.due("of several the first", x, x.worked(2), 0, 0);
        Check.row(x, 0, 10, 12, 14, 17, 20);
        x.write(1, 3, 0);
        x.works(0, 1, 5);
        Check.due("of several the first", x, x.worked(2), 2, 0);
        Check.row(x, 0, 0, 0, 1);
        Check.row(x, 1, 9, 0);
        x.works(0, 1, 3);
        Check.due("9 may, 1 must", x, x.worked(2), 1, 0);
    }

    private static void workedByTheLatest() {
        SnowForts x = new SnowForts();
        Check.due("there was none", x, x.worked(0), -1, 8);
        x.works(0, 1, 2);
        Check.due("with STATUS 3", x, x.worked(0), -1, 8);
        Check.row(x, 0, 5, 8, 7);
        Check.row(x, 1, 1, 2);
        x.works(0, 1, 3);
        Check.due("3 and 1 and 1 and 2", x, x.worked(0), 4 + 1, 0);
        x.works(0, 1, 4);
        x.works(0, 1, 1);
        x.works(0, 4, 2);
        x.write(0, 0, 50);
        x.tray(1, 3, 0);
        Check.due("by that with STATUS 0, whatever its TRAYS are now", x, x.worked(0), 5, 0);
        Check.due("the most", x, x.worked(1), 5, 0);
        Check.row(x, 1, 0);
        Check.due("no WORKS", x, x.works(0, 1, 2), 0, 0);
        Check.due("they are the latest", x, x.worked(0), -1, 8);
        x.works(0, 1, 1);
        Check.due("they are the latest yet", x, x.worked(1), -1, 8);
        for (int what : new int[] {LEAST, -1, 3, 4, 256, GREATEST}) {
            Check.due("worked(" + what + ")", x, x.worked(what), -1, 5);
        }
    }

    // ---- the GAME

    private static void winsByOneRaise() {
        SnowForts x = new SnowForts();
        Check.due("12 can't be raised", x, x.wins(12, 12, 1, 4), 0, 0);
        Check.due("who cannot loses", x, x.wins(12, 0, 4, 4), 0, 0);
        Check.due("the other one can't then", x, x.wins(11, 12, 1, 4), 1, 0);
        Check.due("the other one can", x, x.wins(11, 11, 1, 4), 0, 0);
        Check.due("no more than the other", x, x.wins(5, 5, 4, 0), 0, 0);
        Check.due("up to the other", x, x.wins(4, 5, 4, 0), 1, 0);
        Check.due("turns", x, x.turns(5, 5, 4, 0), 0, 0);
        Check.due("turns", x, x.turns(4, 5, 4, 0), 1, 0);
    }

    private static void winsByTheLeastRaise() {
        SnowForts x = new SnowForts();
        // whatever the raise is, the other one is not below this one, and can't raise
        Check.due("1 of four", x, x.wins(5, 9, 4, 0), 1, 0);
        Check.due("1 of two", x, x.wins(10, 12, 2, 0), 1, 0);
        Check.due("1, though 4 would come to 12", x, x.wins(8, 12, 4, 4), 1, 0);
        Check.due("1 alone", x, x.wins(11, 12, 4, 4), 1, 0);
    }

    private static void raisesAtMost12() {
        SnowForts x = new SnowForts();
        for (int a = 8; a <= 12; a++) {
            Check.due("by one turn to 12 from " + a, x, x.turns(a, 12, 4, 4), a == 12 ? 0 : 1, 0);
        }
        Check.due("by two turns from 7", x, x.turns(7, 12, 4, 4), 1, 0);
        Check.due("the other can't", x, x.turns(7, 12, 4, 0), 1, 0);
    }

    private static void raisesAtMostTheOtherAndK() {
        SnowForts x = new SnowForts();
        for (int k = 0; k <= 4; k++) {
            for (int a = 0; a <= 8; a++) {
                Check.due("whether it can be raised from " + a + " by " + k, x.turns(a, 3, 1, k) > 0, a < 3 + k);
                Check.due("who can't raise loses", a >= 3 + k && x.wins(a, 3, 4, k) != 0, false);
            }
        }
    }

    private static void gameOfWhichNumbers() {
        SnowForts x = new SnowForts();
        for (int number : new int[] {LEAST, -256, -1, 0, 1, 4, 5, 12, 13, 256, GREATEST}) {
            boolean wall = number >= 0 && number <= 12;
            boolean m = number >= 1 && number <= 4;
            boolean k = number >= 0 && number <= 4;
            x.wins(number, 0, 1, 0);
            Check.due("a " + number, x.status(), wall ? 0 : 5);
            x.turns(number, 0, 1, 0);
            Check.due("a " + number, x.status(), wall ? 0 : 5);
            x.wins(0, number, 1, 0);
            Check.due("b " + number, x.status(), wall ? 0 : 5);
            x.turns(0, number, 1, 0);
            Check.due("b " + number, x.status(), wall ? 0 : 5);
            x.wins(0, 0, number, 0);
            Check.due("m " + number, x.status(), m ? 0 : 5);
            x.turns(0, 0, number, 0);
            Check.due("m " + number, x.status(), m ? 0 : 5);
            x.wins(0, 0, 1, number);
            Check.due("k " + number, x.status(), k ? 0 : 5);
            x.turns(0, 0, 1, number);
            Check.due("k " + number, x.status(), k ? 0 : 5);
        }
    }

    private static void turnsByTheGreatestRaise() {
        SnowForts x = new SnowForts();
        Check.due("1 each up to 12", x, x.turns(0, 0, 1, 1), 24, 0);
        Check.due("4 each up to 12", x, x.turns(0, 0, 4, 4), 6, 0);
        // to 2, 4, 6, 8, 10, 12, and 12
        Check.due("by k 2", x, x.turns(0, 0, 4, 2), 7, 0);
        Check.due("3 each up to 12", x, x.turns(0, 0, 3, 4), 8, 0);
        Check.due("none by k 0", x, x.turns(0, 0, 4, 0), 0, 0);
        Check.due("up to the other by k 0", x, x.turns(3, 7, 4, 0), 1, 0);
        Check.due("below the other by k 0", x, x.turns(1, 7, 4, 0), 1, 0);
        // to 1 and 4, 1 and 5, 5 and 5, 5 and 6, ..
        Check.due("one more than the other", x, x.turns(0, 4, 1, 1), 1 + 0 + new SnowForts().turns(4, 1, 1, 1), 0);
    }

    /** A game leaves nothing behind for the next one. */
    private static void stateBetweenGames() {
        SnowForts x = new SnowForts();
        for (int m = 4; m >= 1; m--) {
            for (int k = 0; k <= 4; k++) {
                x.wins(0, 0, 4, 4);
                int again = x.wins(3, 2, m, k);
                Check.due("as on a new object", new SnowForts().wins(3, 2, m, k), again);
            }
        }
    }

    // ---- odds

    private static SnowForts sixteenths(long a, long b, long c, long d) {
        SnowForts x = new SnowForts();
        Check.row(x, 0, a, b, c, d);
        return x;
    }

    private static void fractionIs(String why, SnowForts x, long top, long bottom) {
        Check.due(why + ": top()", x.top(), top);
        Check.due(why + ": bottom()", x.bottom(), bottom);
    }

    private static void oddsOfWhichWall() {
        SnowForts x = sixteenths(4, 4, 4, 4);
        for (int wall : new int[] {LEAST, -1, 0, 1, 2, 98, 99, 100, 101, 257, GREATEST}) {
            boolean can = wall >= 1 && wall <= 99;
            Check.due("stands(" + wall + ", 1, 0)", x, x.stands(wall, 1, 0), can, can ? 0 : 5);
            Check.due("mean(" + wall + ", 1, 0)", x, x.mean(wall, 1, 0), can, can ? 0 : 5);
        }
    }

    private static void oddsOfWhichDays() {
        SnowForts x = sixteenths(4, 4, 4, 4);
        for (int days : new int[] {LEAST, -1, 0, 1, 2, 7, 8, 9, 10, 257, GREATEST}) {
            boolean can = days >= 1 && days <= 8;
            Check.due("stands(50, " + days + ", 0)", x, x.stands(50, days, 0), can, can ? 0 : 5);
            Check.due("mean(50, " + days + ", 0)", x, x.mean(50, days, 0), can, can ? 0 : 5);
            if (can) {
                fractionIs("1 and a half a day", x, days % 2 == 0 ? 50 - 3 * days / 2 : 100 - 3 * days, days % 2 == 0 ? 1 : 2);
            }
        }
    }

    private static void oddsOfFourNumbers() {
        for (int many = 0; many <= 5; many++) {
            SnowForts x = new SnowForts();
            x.tray(3, 0, many);
            for (int i = 0; i < Math.min(4, many); i++) {
                x.write(3, i, 4);
            }
            Check.due("stands by " + many, x, x.stands(1, 1, 3), many >= 4, many >= 4 ? 0 : 4);
            Check.due("mean by " + many, x, x.mean(1, 1, 3), many >= 4, many >= 4 ? 0 : 4);
        }
        for (int sort = 0; sort <= 3; sort++) {
            SnowForts x = new SnowForts();
            x.tray(0, sort, 4);
            x.write(0, 1, 16);
            Check.due("any sort", x, x.mean(9, 4, 0), true, 0);
            fractionIs("any sort", x, 5, 1);
        }
    }

    /** Each 0 to 16, together 16. */
    private static void oddsOfNumbersThatAreNotSo() {
        long[][] fit = {{16, 0, 0, 0}, {0, 16, 0, 0}, {0, 0, 16, 0}, {0, 0, 0, 16}, {1, 15, 0, 0}, {5, 4, 4, 3}};
        for (long[] row : fit) {
            SnowForts x = sixteenths(row[0], row[1], row[2], row[3]);
            Check.due("sixteenths", x, x.stands(1, 1, 0), true, 0);
            Check.due("sixteenths", x, x.mean(1, 1, 0), true, 0);
        }
        long[][] unfit = {{15, 0, 0, 0}, {17, 0, 0, 0}, {0, 0, 0, 0}, {4, 4, 4, 3}, {4, 4, 4, 5}, {17, -1, 0, 0}, {0, 17, -1, 0},
            {-1, 0, 0, 17}, {8, 9, 0, -1}, {-16, 16, 16, 0}, {1L << 32, 16, 0, 0}, {16, 0, 0, 1L << 32}, {272, 0, 0, 0},
            {Long.MAX_VALUE, Long.MAX_VALUE, 18, 0}, {Long.MIN_VALUE, Long.MIN_VALUE, 16, 0}};
        for (long[] row : unfit) {
            SnowForts x = sixteenths(row[0], row[1], row[2], row[3]);
            Check.due("no sixteenths", x, x.stands(1, 1, 0), false, 5);
            Check.due("no sixteenths", x, x.mean(1, 1, 0), false, 5);
            fractionIs("none was told", x, 0, 1);
        }
    }

    private static void oddsFirstStatus() {
        SnowForts x = new SnowForts();
        Check.due("1 ahead of 5", x, x.stands(0, 0, 4), false, 1);
        Check.due("1 ahead of 5", x, x.mean(0, 0, -1), false, 1);
        Check.due("3 ahead of 5", x, x.stands(0, 0, 0), false, 3);
        Check.due("3 ahead of 5", x, x.mean(0, 0, 3), false, 3);
        Check.row(x, 0, 99, 99, 99);
        Check.due("4 ahead of 5", x, x.stands(0, 0, 0), false, 4);
        Check.due("4 ahead of 5", x, x.mean(100, 9, 0), false, 4);
    }

    private static void standsIsAbove0() {
        SnowForts x = sixteenths(0, 0, 0, 16);
        for (int days = 1; days <= 8; days++) {
            x.stands(3 * days, days, 0);
            fractionIs("0 stands no more", x, 0, 1);
            x.stands(3 * days + 1, days, 0);
            fractionIs("1 stands", x, 1, 1);
        }
        x = sixteenths(16, 0, 0, 0);
        x.stands(1, 8, 0);
        fractionIs("without a thaw", x, 1, 1);
        x = sixteenths(3, 13, 0, 0);
        x.stands(1, 1, 0);
        fractionIs("three sixteenths", x, 3, 16);
        x.stands(1, 2, 0);
        fractionIs("nine of 256", x, 9, 256);
    }

    /** A THAW of 3 leaves of 1, of 2 no less than 0: the MEAN is not below that. */
    private static void wallNotBelow0() {
        SnowForts x = sixteenths(8, 0, 0, 8);
        x.mean(1, 1, 0);
        fractionIs("of 1", x, 1, 2);
        x.mean(2, 1, 0);
        fractionIs("of 2", x, 1, 1);
        x.mean(3, 1, 0);
        fractionIs("of 3", x, 3, 2);
        x.mean(1, 2, 0);
        fractionIs("of 1, two days", x, 1, 4);
        x.stands(2, 2, 0);
        fractionIs("of 2 stands", x, 1, 4);
    }

    private static void meanTells() {
        for (int wall = 24; wall <= 99; wall += 25) {
            SnowForts x = sixteenths(1, 2, 3, 10);
            x.mean(wall, 8, 0);
            // a THAW takes 38 sixteenths in the mean
            fractionIs("as long as it can't go below 0", x, wall - 19, 1);
        }
    }

    private static void withoutACommonDivisor() {
        SnowForts x = sixteenths(8, 8, 0, 0);
        x.stands(1, 1, 0);
        fractionIs("8 of 16", x, 1, 2);
        x.mean(2, 1, 0);
        fractionIs("24 of 16", x, 3, 2);
        x = sixteenths(4, 0, 0, 12);
        x.stands(3, 1, 0);
        fractionIs("4 of 16", x, 1, 4);
        x = sixteenths(0, 0, 16, 0);
        x.stands(2, 1, 0);
        fractionIs("0 of 16", x, 0, 1);
        x.mean(2, 8, 0);
        fractionIs("0 by 1", x, 0, 1);
    }

    private static void greatestFraction() {
        SnowForts x = sixteenths(15, 1, 0, 0);
        x.stands(1, 8, 0);
        fractionIs("15 to the 8th of 16 to the 8th", x, 2562890625L, 4294967296L);
        x = sixteenths(15, 0, 0, 1);
        x.mean(3, 8, 0);
        fractionIs("three times that", x, 3 * 2562890625L, 4294967296L);
    }

    private static void fractionToldLatest() {
        SnowForts x = sixteenths(8, 8, 0, 0);
        x.stands(1, 1, 0);
        x.mean(0, 1, 0);
        x.stands(1, 9, 0);
        x.peaces(0, 1);
        x.mean(1, 1, 1);
        fractionIs("that ahead of what is refused", x, 1, 2);
        Check.yard(x, "wide 2 high 1;");
        x.mark();
        x.back();
        Check.row(x, 0, 0, 0, 0, 0);
        fractionIs("it stays", x, 1, 2);
        Check.orders(x, "fall 5;");
        x.peaces(0, 3);
        fractionIs("by peaces()", x, 0, 1);
    }
}
