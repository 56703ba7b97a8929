/** Promises 32 to 37, sentence by sentence: steps of the way, the first of several, PEACE, looks, HIDING, SURE. */
public final class WayEdgesTest {
    private static final String TWO = "school a hands 40;school b hands 40;";

    public static void main(String[] args) {
        stepUp();
        stepDown();
        firstStepFromTheEdge();
        lastStepOut();
        topsOfSnowAndWalls();
        fewestCellsOfTheLeastCost();
        costAheadOfCells();
        firstByTheFirstCellsY();
        rightAheadOfDown();
        downAheadOfUp();
        upAheadOfLeft();
        noWayAskew();
        longestWay();
        eachRowOfEachSize();
        anotherSizeOfTheSameTops();
        eachSizeBehindEach();
        allTopsAtOnce();
        wayAtByTheLatest();
        wayAtOfWhich();
        peaceBy4();
        lookTells();
        lookAtWhich();
        knownTill();
        knownYet();
        hidingOnlyWalls();
        hidingOfWhichHalf();
        sureLooks();
        sureOfWhat();
        sureOf18();
        Check.end("WayEdgesTest");
    }

    private static void costIs(String text, int due) {
        SnowForts x = Check.forts(text);
        Check.due("way() of " + text, x, x.way(), due, 0);
    }

    /** The cells as x and y, one behind another: "00 10 20". */
    private static void wayIs(SnowForts x, String why, String cells) {
        String[] all = cells.split(" ");
        for (int k = 0; k < all.length; k++) {
            Check.due(why + ": x of " + k, x, x.wayAt(k, 0), all[k].charAt(0) - '0', 0);
            Check.due(why + ": y of " + k, x, x.wayAt(k, 1), all[k].charAt(1) - '0', 0);
        }
        Check.due(why + ": no more", x, x.wayAt(all.length, 0), -1, 8);
        Check.due(why + ": no more", x, x.wayAt(all.length, 1), -1, 8);
    }

    /** A yard told by rows of tops, a digit or a letter each (a is 10, z is 35). */
    private static SnowForts yardOf(String... rows) {
        StringBuilder text = new StringBuilder("wide " + rows[0].length() + " high " + rows.length + ";");
        for (int y = 0; y < rows.length; y++) {
            for (int x = 0; x < rows[y].length(); x++) {
                int top = Character.digit(rows[y].charAt(x), 36);
                if (top > 0) {
                    text.append(x % 2 == 0 ? "snow " : "wall ").append(x).append(' ').append(y);
                    text.append(x % 2 == 0 ? " deep " : " tall ").append(top).append(';');
                }
            }
        }
        return Check.forts(text.toString());
    }

    private static void stepUp() {
        for (int top = 0; top <= 9; top++) {
            costIs("wide 2 high 1;snow 0 0 deep 3;wall 1 0 tall " + (3 + top) + ";", 3 + top + (top > 0 ? 2 : 0));
        }
    }

    private static void stepDown() {
        for (int down = 0; down <= 9; down++) {
            // out of the yard it is 1 down, which costs nothing
            costIs("wide 2 high 1;snow 1 0 deep 1;wall 0 0 tall " + (1 + down) + ";", 1 + down + (down > 3 ? 2 : 0));
        }
    }

    private static void firstStepFromTheEdge() {
        for (int top = 0; top <= 5; top++) {
            costIs("wide 2 high 1;snow 0 0 deep " + top + ";snow 1 0 deep " + Math.max(0, top - 3) + ";", top);
        }
    }

    private static void lastStepOut() {
        for (int top = 0; top <= 7; top++) {
            costIs("wide 2 high 1;snow 0 0 deep " + top + ";snow 1 0 deep " + top + ";", top + (top > 3 ? 2 : 0));
        }
    }

    private static void topsOfSnowAndWalls() {
        costIs("wide 2 high 1;snow 0 0 deep 1;wall 0 0 tall 2;snow 1 0 deep 3;", 3);
        costIs("wide 2 high 1;snow 0 0 deep 99;wall 0 0 tall 99;wall 1 0 tall 99;snow 1 0 deep 99;", 200);
        costIs("wide 2 high 1;snow 0 0 deep 99;wall 0 0 tall 99;", 200);
        costIs("wide 2 high 1;snow 1 0 deep 99;wall 1 0 tall 99;", 200);
        costIs("wide 4 high 1;snow 0 0 deep 99;wall 0 0 tall 99;snow 2 0 deep 99;wall 2 0 tall 99;", 198 + 2 + 198 + 2);
        costIs("wide 6 high 1;snow 0 0 deep 99;wall 0 0 tall 99;snow 2 0 deep 99;wall 2 0 tall 99;snow 4 0 deep 99;wall 4 0 tall 99;", 600);
    }

    /** One row alone is low: the way goes along it, to the last cell of all, too. */
    private static void eachRowOfEachSize() {
        for (int wide = 2; wide <= 6; wide += 2) {
            for (int high = 1; high <= 6; high++) {
                for (int row = 0; row < high; row++) {
                    String[] rows = new String[high];
                    StringBuilder cells = new StringBuilder();
                    for (int y = 0; y < high; y++) {
                        rows[y] = (y == row ? "0" : "9").repeat(wide);
                    }
                    for (int column = 0; column < wide; column++) {
                        cells.append(column).append(row).append(' ');
                    }
                    SnowForts x = yardOf(rows);
                    Check.due("along the row " + row, x, x.way(), 0, 0);
                    wayIs(x, "along the row " + row, cells.toString().trim());
                    Check.due("peace()", x, x.peace(), 1, 0);
                }
            }
        }
    }

    /** The COST is of this YARD, though its tops are those of the one ahead. */
    private static void anotherSizeOfTheSameTops() {
        SnowForts x = Check.forts("wide 2 high 1;wall 0 0 tall 9;");
        Check.due("over the wall", x, x.way(), 11, 0);
        Check.yard(x, "wide 2 high 2;wall 0 0 tall 9;");
        Check.due("below the wall", x, x.way(), 0, 0);
        Check.yard(x, "wide 2 high 1;wall 0 0 tall 9;");
        Check.due("peace()", x, x.peace(), 0, 0);
        Check.yard(x, "wide 2 high 2;wall 0 0 tall 9;");
        Check.due("peace()", x, x.peace(), 1, 0);
        Check.yard(x, "wide 2 high 1;snow 1 0 deep 5;");
        Check.due("5 up, 5 down out of the yard", x, x.way(), 7, 0);
        wayIs(x, "two cells", "00 10");
        Check.yard(x, "wide 4 high 1;snow 1 0 deep 5;");
        Check.due("5 up, 5 down", x, x.way(), 7, 0);
        wayIs(x, "four cells", "00 10 20 30");
        Check.yard(x, "wide 6 high 1;snow 1 0 deep 5;");
        Check.due("peace()", x, x.peace(), 0, 0);
        Check.due("the latest way() was another yard's", x, x.wayAt(4, 0), -1, 8);
        Check.due("5 up, 5 down", x, x.way(), 7, 0);
        wayIs(x, "six cells", "00 10 20 30 40 50");
    }

    /** Each size behind each other one, with the same tops. */
    private static void eachSizeBehindEach() {
        for (int first = 0; first < 18; first++) {
            for (int second = 0; second < 18; second++) {
                SnowForts x = Check.forts(lowSnow(first));
                x.way();
                Check.yard(x, lowSnow(second));
                int wide = 2 + 2 * (second % 3);
                int due = second / 3 == 0 ? 2 : 0;
                Check.due("the COST", x, x.way(), due, 0);
                Check.due("its last CELL", x, x.wayAt(wide - 1, 0), wide - 1, 0);
                Check.due("its last CELL", x, x.wayAt(wide - 1, 1), due == 0 ? 1 : 0, 0);
                Check.due("none behind that", x, x.wayAt(wide, 0), -1, 8);
            }
        }
    }

    private static String lowSnow(int size) {
        return "wide " + (2 + 2 * (size % 3)) + " high " + (1 + size / 3) + ";snow 1 0 deep 2;";
    }

    /** Each top of the greatest yard has changed behind the latest COST. */
    private static void allTopsAtOnce() {
        SnowForts x = new SnowForts();
        Check.yard(x, "wide 6 high 6;");
        int[] costs = {0, 1, 3, 6, 10, 15, 21};
        for (int n = 0; n < costs.length; n++) {
            x.fall(n);
            int due = costs[n] + (costs[n] > 3 ? 2 : 0);
            Check.due("way() behind a FALL of " + n, x, x.way(), due, 0);
            Check.due("peace()", x, x.peace(), due <= 4 ? 1 : 0, 0);
        }
        for (int n = costs.length - 1; n >= 0; n--) {
            Check.due("way() ahead of a THAW of " + n, x, x.way(), costs[n] + (costs[n] > 3 ? 2 : 0), 0);
            x.thaw(n);
        }
        Check.orders(x, "when way=0;fall 3;when way=3;fall 4;when way=9;night;end;end;end;");
        Check.due("each test by the tops of then", x.run(0), 6);
        Check.due("a night", x.many(3), 1);
        Check.due("peace()", x, x.peace(), 0, 0);
        x.thaw(7);
        Check.due("peace()", x, x.peace(), 1, 0);
    }

    private static void fewestCellsOfTheLeastCost() {
        // straight on costs 0 by the third row alone; a way that changes rows costs 0, too, by more cells
        SnowForts x = yardOf("0100", "0000", "0000");
        Check.due("cost", x, x.way(), 0, 0);
        wayIs(x, "a straight one", "01 11 21 31");
        x = yardOf("1000", "0010", "0000");
        Check.due("cost", x, x.way(), 0, 0);
        wayIs(x, "straight, though further down", "02 12 22 32");
    }

    private static void costAheadOfCells() {
        SnowForts x = yardOf("0100", "0000");
        x.way();
        wayIs(x, "another row", "01 11 21 31");
        x = yardOf("0100", "0010");
        Check.due("1 up in either row", x, x.way(), 1, 0);
        x = yardOf("0090", "9000");
        Check.due("no cost by five cells", x, x.way(), 0, 0);
        wayIs(x, "down on the way", "00 10 11 21 31");
    }

    private static void firstByTheFirstCellsY() {
        for (int y = 0; y < 6; y++) {
            String[] rows = {"11", "11", "11", "11", "11", "11"};
            for (int below = y; below < 6; below++) {
                rows[below] = "00";
            }
            SnowForts x = yardOf(rows);
            Check.due("cost", x, x.way(), 0, 0);
            wayIs(x, "the first row of 0", "0" + y + " 1" + y);
        }
    }

    private static void rightAheadOfDown() {
        SnowForts x = yardOf("0009", "9000");
        Check.due("cost", x, x.way(), 0, 0);
        wayIs(x, "right as long as it may", "00 10 20 21 31");
    }

    private static void downAheadOfUp() {
        SnowForts x = yardOf("9000", "0090", "9000");
        Check.due("cost", x, x.way(), 0, 0);
        wayIs(x, "down", "01 11 12 22 32");
        x = yardOf("9000", "0090", "9990");
        Check.due("cost", x, x.way(), 0, 0);
        wayIs(x, "up, where down is none", "01 11 10 20 30");
        // right, right, then down; not right, up, where as many cells lead
        x = yardOf("900090", "000090", "900000");
        Check.due("cost", x, x.way(), 0, 0);
        wayIs(x, "right ahead of down", "01 11 21 31 32 42 52");
    }

    private static void upAheadOfLeft() {
        SnowForts x = yardOf("999000", "000099", "099999");
        Check.due("cost", x, x.way(), 0, 0);
        wayIs(x, "up", "01 11 21 31 30 40 50");
        x = yardOf("000099", "999099", "900099", "909999", "900000");
        Check.due("cost", x, x.way(), 0, 0);
        wayIs(x, "back to the left", "00 10 20 30 31 32 22 12 13 14 24 34 44 54");
    }

    private static void noWayAskew() {
        SnowForts x = yardOf("0999", "9099", "9909", "9990");
        Check.due("from CELL to CELL askew there is none", x.way() > 0, true);
    }

    private static void longestWay() {
        SnowForts x = yardOf("00000z", "zzzz0z", "00000z", "0zzzzz", "000000");
        Check.due("cost", x, x.way(), 0, 0);
        wayIs(x, "the left edge again, at once", "04 14 24 34 44 54");
        x = yardOf("0z000z", "0z0z0z", "0z0z0z", "0z0z0z", "000z00");
        Check.due("cost", x, x.way(), 0, 0);
        wayIs(x, "down and up and down", "04 14 24 23 22 21 20 30 40 41 42 43 44 54");
    }

    private static void wayAtByTheLatest() {
        SnowForts x = yardOf("90", "00");
        Check.due("not asked", x, x.wayAt(0, 0), -1, 8);
        x.peace();
        Check.orders(x, "when way>0;end;");
        x.run(0);
        x.peaces(0, 3);
        Check.due("not asked by way()", x, x.wayAt(0, 0), -1, 8);
        x.way();
        wayIs(x, "asked", "01 11");
        x.fall(1);
        x.thaw(40);
        x.peace();
        x.run(0);
        x.peaces(0, 3);
        wayIs(x, "by the latest way()", "01 11");
        x.way();
        wayIs(x, "by the next one", "00 10");
    }

    private static void wayAtOfWhich() {
        SnowForts x = yardOf("000000");
        x.way();
        for (int k = -2; k <= 37; k++) {
            boolean can = k >= 0 && k < 6;
            Check.due("wayAt(" + k + ", 0)", x, x.wayAt(k, 0), can ? k : -1, can ? 0 : 8);
            Check.due("wayAt(" + k + ", 1)", x, x.wayAt(k, 1), can ? 0 : -1, can ? 0 : 8);
            Check.due("wayAt(" + k + ", 2)", x, x.wayAt(k, 2), -1, 5);
            Check.due("wayAt(" + k + ", -1)", x, x.wayAt(k, -1), -1, 5);
        }
    }

    private static void peaceBy4() {
        for (int cost = 0; cost <= 8; cost++) {
            SnowForts x = Check.forts("wide 2 high 1;snow 0 0 deep " + cost + ";snow 1 0 deep " + Math.min(3, cost) + ";");
            Check.due("PEACE by " + cost, x, x.peace(), cost <= 4 ? 1 : 0, 0);
        }
        SnowForts x = Check.forts("wide 2 high 1;snow 0 0 deep 2;snow 1 0 deep 4;");
        Check.due("way()", x, x.way(), 6, 0);
        Check.due("no PEACE", x, x.peace(), 0, 0);
        x.thaw(1);
        Check.due("way()", x, x.way(), 3, 0);
        Check.due("PEACE", x, x.peace(), 1, 0);
    }

    private static void lookTells() {
        SnowForts x = Check.forts("wide 2 high 2;" + TWO + "wall 0 0 tall 1;wall 1 1 tall 1;");
        Check.due("not ICED", x, x.look(0, 0), 0, 0);
        x.ice(0, 0);
        Check.due("ICED", x, x.look(0, 0), 1, 0);
        Check.due("another one", x, x.look(1, 1), 0, 0);
        Check.due("without a WALL", x, x.look(1, 0), 0, 0);
        x.thaw(0);
        Check.due("ICED no more", x, x.look(0, 0), 0, 0);
    }

    private static void lookAtWhich() {
        SnowForts x = new SnowForts();
        for (int column = -1; column <= 2; column++) {
            for (int row = -1; row <= 1; row++) {
                boolean can = column >= 0 && column < 2 && row == 0;
                Check.due("look(" + column + ", " + row + ")", x, x.look(column, row), can ? 0 : -1, can ? 0 : 2);
            }
        }
        x = Check.forts("wide 4 high 1;wall 3 0 tall 3;");
        Check.due("a half without a SCHOOL", x, x.look(3, 0), 0, 0);
        Check.due("is known then", x, x.hiding(1), 0, 0);
    }

    private static SnowForts known() {
        SnowForts x = Check.forts("wide 4 high 1;" + TWO + "wall 0 0 tall 3;wall 1 0 tall 3;wall 2 0 tall 3;wall 3 0 tall 3;"
            + "snow 0 0 deep 5;snow 3 0 deep 5;");
        for (int column = 0; column < 4; column++) {
            x.look(column, 0);
        }
        Check.due("all known", x.hiding(0) + x.hiding(1), 0);
        return x;
    }

    private static void hidingIs(String why, SnowForts x, int left, int right) {
        Check.due(why + ": left", x, x.hiding(0), left, 0);
        Check.due(why + ": right", x, x.hiding(1), right, 0);
    }

    private static void knownTill() {
        SnowForts x = known();
        x.build(0, 0, 1);
        hidingIs("built there", x, 1, 0);
        x = known();
        x.ice(2, 0);
        hidingIs("ICED there", x, 0, 1);
        x = known();
        x.steal(1, 0, 3, 0, 1);
        hidingIs("stolen to it, and from it", x, 1, 1);
        x = known();
        x.thaw(0);
        hidingIs("a THAW that melts nothing", x, 2, 2);
        x = known();
        x.thaw(1);
        hidingIs("a THAW", x, 2, 2);
        x.look(1, 0);
        hidingIs("a LOOK again", x, 1, 2);
    }

    private static void knownYet() {
        SnowForts x = known();
        x.fall(1);
        hidingIs("a FALL", x, 0, 0);
        x.night();
        hidingIs("a NIGHT", x, 0, 0);
        x.mark();
        hidingIs("a MARK", x, 0, 0);
        x.thaw(-1);
        x.thaw(41);
        hidingIs("a THAW that can't be", x, 0, 0);
        x.build(0, 0, 41);
        x.steal(0, 0, 1, 0, 1);
        hidingIs("a build, a STEAL that can't be", x, 0, 0);
        x.build(0, 0, 40);
        x.look(0, 0);
        x.build(0, 0, 1);
        x.ice(0, 0);
        x.look(0, 0);
        x.ice(0, 0);
        hidingIs("no SNOW, ICED already", x, 0, 0);
        Check.orders(x, "loop 3;thaw 1;end;");
        x.peaces(0, 2);
        hidingIs("what is only asked for", x, 0, 0);
        x.run(0);
        hidingIs("a THAW by ORDERS", x, 2, 2);
    }

    private static void hidingOnlyWalls() {
        SnowForts x = Check.forts("wide 4 high 2;" + TWO + "wall 0 0 tall 1;snow 1 0 deep 9;wall 1 1 tall 99;wall 2 0 tall 0;");
        hidingIs("a WALL of 1, of 99; of 0, SNOW alone are none", x, 2, 0);
        x.build(1, 0, 1);
        hidingIs("a WALL that is new", x, 3, 0);
        x.thaw(10);
        hidingIs("WALLS that are melted", x, 1, 0);
    }

    private static void hidingOfWhichHalf() {
        SnowForts x = Check.forts("wide 6 high 1;wall 0 0 tall 1;wall 1 0 tall 1;wall 2 0 tall 1;wall 3 0 tall 1;wall 5 0 tall 1;");
        hidingIs("without SCHOOLS, too", x, 3, 2);
        Check.due("hiding(-1)", x, x.hiding(-1), -1, 5);
        Check.due("hiding(2)", x, x.hiding(2), -1, 5);
    }

    private static void sureLooks() {
        for (int iced = -1; iced <= 20; iced++) {
            SnowForts x = Check.forts("wide 4 high 3;wall 0 0 tall 1;wall 1 0 tall 1;wall 0 1 tall 1;wall 1 1 tall 1;wall 0 2 tall 1;"
                + "wall 2 0 tall 1;");
            boolean told = iced >= 1 && iced <= 18;
            Check.due("sure(0, " + iced + ")", x, x.sure(0, iced), told && iced <= 5 ? 6 - iced : -1, told ? iced <= 5 ? 0 : 9 : 5);
            Check.due("sure(1, " + iced + ")", x, x.sure(1, iced), iced == 1 ? 1 : -1, told ? iced == 1 ? 0 : 9 : 5);
        }
    }

    /** Among those that are not known alone, whatever is ICED there. */
    private static void sureOfWhat() {
        SnowForts x = Check.forts("wide 2 high 3;" + TWO + "wall 0 0 tall 1;wall 0 1 tall 1;wall 0 2 tall 1;");
        x.ice(0, 0);
        x.ice(0, 1);
        Check.due("three", x, x.sure(0, 1), 3, 0);
        x.look(0, 0);
        Check.due("two", x, x.sure(0, 1), 2, 0);
        Check.due("two", x, x.sure(0, 2), 1, 0);
        Check.due("two", x, x.sure(0, 3), -1, 9);
        x.look(0, 1);
        x.look(0, 2);
        Check.due("none", x, x.sure(0, 1), -1, 9);
    }

    private static void sureOf18() {
        StringBuilder text = new StringBuilder("wide 6 high 6;");
        for (int cell = 0; cell < 18; cell++) {
            text.append("wall ").append(3 + cell % 3).append(' ').append(cell / 3).append(" tall 2;");
        }
        SnowForts x = Check.forts(text.toString());
        Check.due("sure(1, 1)", x, x.sure(1, 1), 18, 0);
        Check.due("sure(1, 17)", x, x.sure(1, 17), 2, 0);
        Check.due("sure(1, 18)", x, x.sure(1, 18), 1, 0);
        Check.due("sure(1, 19)", x, x.sure(1, 19), -1, 5);
        Check.due("sure(0, 1)", x, x.sure(0, 1), -1, 9);
    }
}
