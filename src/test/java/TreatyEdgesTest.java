/** Promises 24 to 31, sentence by sentence: what the treaty leaves, tops, level halves, what lasts. */
public final class TreatyEdgesTest {
    private static final String TWO = "school a hands 40;school b hands 40;";

    public static void main(String[] args) {
        roomBySnow();
        roomTo99();
        roomByTheWallAcross();
        roomByHandsBehindWhichNoBuilding();
        roomWhateverTheHands();
        roomOfWhom();
        roomIsWhatMayBeBuilt();
        mostBySumOfRooms();
        mostByItsHands();
        mostByTheTreatysHands();
        mostOfWhom();
        lowestAndHighest();
        steepestBesideAndAbove();
        levelUnlikeBy1();
        levelByTheSnowThereIs();
        levelBy99();
        levelThatCantBe();
        levelByTheWallsOfNow();
        levelOfAllCells();
        levelOfWhichHalf();
        unlikeCouples();
        lastingDays();
        lastingThaws();
        lastingSun();
        lastingIce();
        lastingOfWhom();
        lastingByTheWallsOfNow();
        askingChangesNothing();
        Check.end("TreatyEdgesTest");
    }

    private static void roomBySnow() {
        for (int snow : new int[] {0, 1, 40, 41, 98, 99}) {
            SnowForts x = Check.forts("wide 2 high 1;" + TWO + "snow 0 0 deep " + snow + ";");
            Check.due("room of SNOW " + snow, x, x.room(0, 0), snow, 0);
        }
    }

    private static void roomTo99() {
        for (int wall = 95; wall <= 99; wall++) {
            SnowForts x = Check.forts("wide 2 high 1;" + TWO + "snow 1 0 deep 3;wall 1 0 tall " + wall + ";");
            Check.due("room on a WALL of " + wall, x, x.room(1, 0), Math.min(3, 99 - wall), 0);
        }
        SnowForts x = Check.forts("wide 2 high 1;" + TWO + "no wall above 20;snow 1 0 deep 9;wall 1 0 tall 97;wall 0 0 tall 90;");
        Check.due("99 is less than the treaty leaves", x, x.room(1, 0), 2, 0);
    }

    private static void roomByTheWallAcross() {
        for (int across = 0; across <= 9; across++) {
            SnowForts x = Check.forts("wide 4 high 2;" + TWO + "no wall above 2;snow 0 1 deep 50;wall 0 1 tall 4;wall 3 1 tall "
                + across + ";");
            Check.due("room by " + across + " ACROSS", x, x.room(0, 1), Math.max(0, across + 2 - 4), 0);
            x.fall(9);
            x.build(3, 1, 3);
            Check.due("it was so at the last night", x, x.room(0, 1), Math.max(0, across + 2 - 4), 0);
            x.night();
            Check.due("three more since", x, x.room(0, 1), Math.max(0, across + 3 + 2 - 4), 0);
        }
    }

    private static void roomByHandsBehindWhichNoBuilding() {
        SnowForts x = Check.forts("wide 4 high 1;" + TWO + "no build behind 5;snow 0 0 deep 50;snow 1 0 deep 2;wall 1 0 tall 1;"
            + "snow 2 0 deep 50;");
        int[] rooms = {5, 4, 2, 1, 0, 0};
        int[] units = {1, 2, 1, 1, 3, 1};
        for (int i = 0; i < units.length; i++) {
            Check.due("room " + i, x, x.room(0, 0), rooms[i], 0);
            Check.due("the least counts, " + i, x, x.room(1, 0), Math.min(2, rooms[i]), 0);
            Check.due("the other SCHOOL's, " + i, x, x.room(2, 0), 5, 0);
            x.build(0, 0, units[i]);
        }
        x.night();
        Check.due("the next day", x, x.room(0, 0), 5, 0);
        x.ice(1, 0);
        Check.due("HANDS that ICED count", x, x.room(0, 0), 3, 0);
        x.steal(1, 0, 2, 0, 3);
        Check.due("HANDS that stole count", x, x.room(0, 0), 1, 0);
        x = Check.forts("wide 2 high 1;" + TWO + "no build behind 0;snow 0 0 deep 9;");
        Check.due("behind 0", x, x.room(0, 0), 0, 0);
    }

    private static void roomWhateverTheHands() {
        SnowForts x = Check.forts("wide 2 high 1;school a hands 0;school b hands 2;no build behind 30;snow 0 0 deep 90;snow 1 0 deep 90;");
        Check.due("no HANDS", x, x.room(0, 0), 30, 0);
        x.build(1, 0, 2);
        Check.due("all HANDS used", x, x.room(1, 0), 28, 0);
    }

    private static void roomOfWhom() {
        SnowForts x = Check.forts("wide 4 high 2;school a hands 9;");
        x.fall(1);
        for (int column = -1; column <= 4; column++) {
            for (int row = -1; row <= 2; row++) {
                boolean can = column >= 0 && column < 2 && row >= 0 && row < 2;
                Check.due("room(" + column + ", " + row + ")", x, x.room(column, row), can ? 1 : -1, can ? 0 : 2);
            }
        }
    }

    /** So many units are no BREACH, one more is one (or can't be built). */
    private static void roomIsWhatMayBeBuilt() {
        for (int more = 0; more <= 6; more++) {
            for (int behind = 0; behind <= 6; behind++) {
                String text = "wide 2 high 1;" + TWO + "no wall above " + more + ";no build behind " + behind
                    + ";snow 0 0 deep 5;wall 0 0 tall 2;wall 1 0 tall 1;";
                SnowForts x = Check.forts(text);
                int room = x.room(0, 0);
                if (room > 0) {
                    x.build(0, 0, room);
                }
                Check.due("no BREACH: " + text, x.many(4), 0);
                Check.due("no room then: " + text, x, x.room(0, 0), 0, 0);
                int unit = x.build(0, 0, 1);
                Check.due("a BREACH, or no unit: " + text, unit == -1 || x.many(4) > 0, true);
            }
        }
    }

    private static void mostBySumOfRooms() {
        SnowForts x = Check.forts("wide 4 high 2;" + TWO + "no wall above 3;snow 0 0 deep 9;snow 1 0 deep 2;snow 0 1 deep 9;wall 0 1 tall 9;"
            + "snow 3 1 deep 1;snow 2 0 deep 20;wall 1 0 tall 1;");
        Check.due("3, 2 and none", x, x.most(0), 3 + 2, 0);
        Check.due("1 and 4", x, x.most(1), 1 + 4, 0);
        x = Check.forts("wide 2 high 6;" + TWO);
        Check.due("no SNOW", x, x.most(0), 0, 0);
    }

    private static void mostByItsHands() {
        for (int hands : new int[] {0, 1, 12, 13, 14, 40}) {
            SnowForts x = Check.forts("wide 4 high 1;school a hands 40;school b hands " + hands + ";snow 2 0 deep 6;snow 3 0 deep 7;");
            Check.due("by " + hands, x, x.most(1), Math.min(hands, 13), 0);
        }
        SnowForts x = Check.forts("wide 2 high 1;school a hands 9;snow 0 0 deep 50;");
        for (int left = 9; left > 0; left--) {
            Check.due("HANDS left", x, x.most(0), left, 0);
            x.build(0, 0, 1);
        }
        Check.due("none left", x, x.most(0), 0, 0);
        x.night();
        Check.due("the next day", x, x.most(0), 9, 0);
    }

    private static void mostByTheTreatysHands() {
        for (int behind = 0; behind <= 40; behind++) {
            SnowForts x = Check.forts("wide 4 high 1;school a hands 30;no build behind " + behind + ";snow 0 0 deep 6;snow 1 0 deep 90;");
            Check.due("behind " + behind, x, x.most(0), Math.min(behind, 30), 0);
            x.build(0, 0, 6);
            Check.due("six are used", x, x.most(0), Math.max(0, Math.min(behind, 30) - 6), 0);
        }
        SnowForts x = Check.forts("wide 4 high 1;school a hands 40;no build behind 5;snow 0 0 deep 3;snow 1 0 deep 3;");
        Check.due("of all CELLS together", x, x.most(0), 5, 0);
    }

    private static void mostOfWhom() {
        for (int schools = 0; schools <= 2; schools++) {
            SnowForts x = Check.forts("wide 2 high 1;" + (schools > 0 ? "school a hands 3;" : "") + (schools > 1 ? "school b hands 3;" : ""));
            x.fall(9);
            for (int school = -1; school <= 2; school++) {
                boolean is = school >= 0 && school < schools;
                Check.due("most(" + school + ")", x, x.most(school), is ? 3 : -1, is ? 0 : 2);
                Check.due("lasting(" + school + ", 0, 0)", x, x.lasting(school, 0, 0), is ? 0 : -1, is ? 0 : 2);
            }
        }
    }

    /** Of each cell in turn the tops alone decide; halves without a SCHOOL are told, too. */
    private static void lowestAndHighest() {
        for (int cell = 0; cell < 8; cell++) {
            StringBuilder text = new StringBuilder("wide 4 high 2;");
            for (int other = 0; other < 8; other++) {
                String where = other % 4 + " " + other / 4;
                text.append("snow ").append(where).append(" deep ").append(other == cell ? 3 : 20).append(';');
                text.append("wall ").append(where).append(" tall ").append(other == cell ? 4 : 30).append(';');
            }
            SnowForts x = Check.forts(text.toString());
            int half = cell % 4 < 2 ? 0 : 1;
            Check.due("the lowest of its half", x, x.lowest(half), 7, 0);
            Check.due("the highest of its half", x, x.highest(half), 50, 0);
            Check.due("of the other", x, x.lowest(1 - half), 50, 0);
        }
        SnowForts x = Check.forts("wide 2 high 1;snow 0 0 deep 99;wall 0 0 tall 99;");
        Check.due("198", x, x.highest(0), 198, 0);
        Check.due("198", x, x.lowest(0), 198, 0);
        Check.due("0", x, x.highest(1), 0, 0);
        Check.due("0", x, x.lowest(1), 0, 0);
    }

    private static void steepestBesideAndAbove() {
        for (int one = 0; one < 36; one++) {
            SnowForts x = Check.forts("wide 6 high 6;");
            SnowForts y = Check.forts("wide 6 high 6;wall " + one % 6 + " " + one / 6 + " tall 9;");
            Check.due("flat", x, x.steepest(), 0, 0);
            Check.due("one WALL", y, y.steepest(), 9, 0);
        }
        SnowForts x = Check.forts("wide 2 high 2;wall 0 0 tall 50;wall 1 0 tall 60;wall 0 1 tall 45;wall 1 1 tall 70;");
        Check.due("0 1 to 1 1", x, x.steepest(), 25, 0);
        x = Check.forts("wide 2 high 2;wall 0 0 tall 50;wall 1 0 tall 49;wall 0 1 tall 30;wall 1 1 tall 31;");
        Check.due("not askew", x, x.steepest(), 20, 0);
        x = Check.forts("wide 6 high 2;wall 5 0 tall 99;snow 5 0 deep 99;wall 4 0 tall 99;snow 4 0 deep 99;wall 5 1 tall 99;"
            + "snow 5 1 deep 99;wall 4 1 tall 99;snow 4 1 deep 99;wall 3 0 tall 99;wall 3 1 tall 99;wall 2 0 tall 99;"
            + "wall 2 1 tall 99;wall 1 0 tall 99;wall 1 1 tall 99;wall 0 0 tall 99;wall 0 1 tall 99;");
        Check.due("the last column and the next row's first are not beside", x, x.steepest(), 99, 0);
        x = Check.forts("wide 2 high 1;wall 1 0 tall 99;snow 1 0 deep 99;");
        Check.due("the most of all", x, x.steepest(), 198, 0);
    }

    private static void levelIs(String heaps, int due) {
        SnowForts x = Check.forts("wide 6 high 1;" + heaps);
        Check.due("level(0) of " + heaps, x, x.level(0), due, due < 0 ? 9 : 0);
    }

    private static String snows(int a, int b, int c) {
        return "snow 0 0 deep " + a + ";snow 1 0 deep " + b + ";snow 2 0 deep " + c + ";";
    }

    private static void levelUnlikeBy1() {
        levelIs(snows(0, 0, 0), 0);
        levelIs(snows(5, 5, 5), 0);
        levelIs(snows(5, 6, 5), 0);
        levelIs(snows(6, 5, 6), 0);
        levelIs(snows(4, 5, 6), 1);
        levelIs(snows(7, 5, 5), 1);
        levelIs(snows(3, 5, 5), 1);
        levelIs(snows(9, 0, 0), 6);
        levelIs(snows(99, 99, 0), 66);
        levelIs(snows(1, 0, 0), 0);
        levelIs(snows(2, 0, 0), 1);
    }

    /** A CELL can give no more SNOW than it has. */
    private static void levelByTheSnowThereIs() {
        levelIs("wall 0 0 tall 4;snow 0 0 deep 1;snow 1 0 deep 3;snow 2 0 deep 3;", 1);
        levelIs("wall 0 0 tall 4;snow 1 0 deep 3;snow 2 0 deep 3;", 0);
        levelIs("wall 0 0 tall 5;snow 1 0 deep 3;snow 2 0 deep 3;", -1);
        levelIs("wall 0 0 tall 5;snow 1 0 deep 4;snow 2 0 deep 4;", 0);
        levelIs("wall 0 0 tall 6;snow 1 0 deep 4;snow 2 0 deep 5;", -1);
        levelIs("wall 0 0 tall 2;wall 1 0 tall 1;snow 2 0 deep 2;", 0);
        levelIs("wall 0 0 tall 2;snow 2 0 deep 2;", 1);
        levelIs("wall 0 0 tall 2;snow 2 0 deep 1;", -1);
    }

    /** .. nor have more than 99; a TOP may be more. */
    private static void levelBy99() {
        levelIs("snow 0 0 deep 99;wall 1 0 tall 99;snow 1 0 deep 1;wall 2 0 tall 99;snow 2 0 deep 1;", 0);
        levelIs("snow 0 0 deep 99;wall 1 0 tall 99;snow 1 0 deep 2;wall 2 0 tall 99;snow 2 0 deep 1;", -1);
        levelIs("snow 0 0 deep 98;wall 1 0 tall 99;snow 1 0 deep 2;wall 2 0 tall 99;snow 2 0 deep 1;", 1);
        levelIs("snow 0 0 deep 97;wall 1 0 tall 99;snow 1 0 deep 2;wall 2 0 tall 99;snow 2 0 deep 2;", 2);
        levelIs("snow 0 0 deep 99;wall 0 0 tall 1;wall 1 0 tall 99;snow 1 0 deep 3;wall 2 0 tall 99;snow 2 0 deep 1;", 1);
        levelIs("snow 0 0 deep 99;wall 0 0 tall 1;wall 1 0 tall 99;snow 1 0 deep 3;wall 2 0 tall 98;", 2);
        levelIs("snow 0 0 deep 99;wall 0 0 tall 99;snow 1 0 deep 99;wall 1 0 tall 99;snow 2 0 deep 99;wall 2 0 tall 99;", 0);
        levelIs("snow 0 0 deep 99;wall 0 0 tall 99;snow 1 0 deep 99;wall 1 0 tall 99;snow 2 0 deep 99;wall 2 0 tall 97;", -1);
    }

    private static void levelThatCantBe() {
        levelIs("wall 0 0 tall 1;", 0);
        levelIs("wall 0 0 tall 2;", -1);
        levelIs("wall 0 0 tall 99;", -1);
        levelIs("wall 0 0 tall 1;wall 1 0 tall 1;", 0);
        SnowForts x = Check.forts("wide 2 high 1;wall 0 0 tall 99;");
        Check.due("one CELL alone is level", x, x.level(0), 0, 0);
        Check.due("without any", x, x.level(1), 0, 0);
    }

    /** The last night's WALLS do not count, be they lower or higher than those of now. */
    private static void levelByTheWallsOfNow() {
        SnowForts x = Check.forts("wide 2 high 2;school a hands 40;snow 0 0 deep 9;");
        Check.due("4 can go", x, x.level(0), 4, 0);
        x.build(0, 0, 4);
        Check.due("4 can go yet", x, x.level(0), 4, 0);
        x.build(0, 0, 2);
        Check.due("no more than 3 can go", x, x.level(0), -1, 9);
        x.night();
        x.thaw(9);
        x.fall(3);
        Check.due("the last night's WALL was 6", x.cell(0, 0, 3), 6);
        Check.due("all are 3", x, x.level(0), 0, 0);
        x = Check.forts("wide 2 high 1;school a hands 40;snow 0 0 deep 99;");
        x.build(0, 0, 40);
        x.fall(40);
        Check.due("SNOW of 99 on a WALL of 40", x.cell(0, 0, 0), 99);
        Check.due("one CELL alone", x, x.level(0), 0, 0);
    }

    private static void levelOfAllCells() {
        for (int cell = 0; cell < 36; cell++) {
            SnowForts x = Check.forts("wide 6 high 6;snow " + cell % 6 + " " + cell / 6 + " deep 37;");
            int half = cell % 6 < 3 ? 0 : 1;
            // 37 by 18 cells: 2 each, one of them 3, gladly this one
            Check.due("all from one CELL", x, x.level(half), 34, 0);
            Check.due("the other half", x, x.level(1 - half), 0, 0);
        }
    }

    private static void levelOfWhichHalf() {
        SnowForts x = Check.forts("wide 2 high 2;snow 0 0 deep 9;snow 1 0 deep 5;");
        Check.due("level(0)", x, x.level(0), 4, 0);
        Check.due("level(1)", x, x.level(1), 2, 0);
        Check.due("level(2)", x, x.level(2), -1, 5);
        Check.due("level(-1)", x, x.level(-1), -1, 5);
    }

    private static void unlikeCouples() {
        for (int cell = 0; cell < 36; cell++) {
            SnowForts x = Check.forts("wide 6 high 6;snow " + cell % 6 + " " + cell / 6 + " deep 1;");
            Check.due("one of them", x, x.unlike(), 1, 0);
        }
        SnowForts x = Check.forts("wide 4 high 2;snow 0 0 deep 2;wall 3 0 tall 2;snow 1 1 deep 1;wall 1 1 tall 3;snow 2 1 deep 3;wall 2 1 tall 1;"
            + "snow 0 1 deep 7;snow 3 1 deep 6;");
        Check.due("TOPS, not SNOW, not WALLS", x, x.unlike(), 1, 0);
        x = Check.forts("wide 4 high 1;snow 0 0 deep 1;snow 2 0 deep 1;");
        Check.due("ACROSS, not beside the middle", x, x.unlike(), 2, 0);
        x = new SnowForts();
        Check.due("a new object", x, x.unlike(), 0, 0);
    }

    private static void lastingDays() {
        SnowForts x = Check.forts("wide 2 high 1;school a hands 9;snow 0 0 deep 2;wall 0 0 tall 99;");
        for (int days = -1; days <= 32; days++) {
            boolean can = days >= 0 && days <= 30;
            Check.due("lasting(0, " + days + ", 1)", x, x.lasting(0, days, 1), can ? Math.min(99, 101 - days) : -1, can ? 0 : 5);
        }
    }

    private static void lastingThaws() {
        SnowForts x = Check.forts("wide 2 high 2;school a hands 9;snow 0 0 deep 2;wall 0 0 tall 99;wall 0 1 tall 30;");
        for (int n = -1; n <= 42; n++) {
            boolean can = n >= 0 && n <= 40;
            int due = Math.min(99, Math.max(0, 101 - 3 * n)) + Math.max(0, 30 - 3 * n);
            Check.due("lasting(0, 3, " + n + ")", x, x.lasting(0, 3, n), can ? due : -1, can ? 0 : 5);
        }
    }

    private static void lastingSun() {
        for (int sun = 0; sun <= 9; sun++) {
            SnowForts x = Check.forts("wide 2 high 1;school a hands 9;snow 0 0 deep 5;wall 0 0 tall 20;sun 0 0 by " + sun + ";");
            Check.due("no THAW but the SUN", x, x.lasting(0, 2, 0), Math.min(20, Math.max(0, 25 - 2 * sun)), 0);
            Check.due("THAW and SUN", x, x.lasting(0, 1, 8), Math.min(20, Math.max(0, 25 - 8 - sun)), 0);
            Check.due("no days", x, x.lasting(0, 0, 40), 20, 0);
        }
    }

    /** The first THAW spares what is ICED; its SNOW melts. */
    private static void lastingIce() {
        SnowForts x = Check.forts("wide 4 high 1;school a hands 9;snow 0 0 deep 3;wall 0 0 tall 50;wall 1 0 tall 50;");
        x.ice(0, 0);
        Check.due("no days", x, x.lasting(0, 0, 10), 100, 0);
        Check.due("one day", x, x.lasting(0, 1, 10), 50 + 40, 0);
        Check.due("two days", x, x.lasting(0, 2, 10), 40 + 30, 0);
        Check.due("a THAW within the SNOW", x, x.lasting(0, 2, 2), 49 + 46, 0);
        x.thaw(0);
        Check.due("ICED no more", x, x.lasting(0, 1, 10), 43 + 40, 0);
    }

    private static void lastingOfWhom() {
        SnowForts x = Check.forts("wide 4 high 1;school a hands 9;wall 1 0 tall 7;wall 2 0 tall 50;");
        Check.due("the first", x, x.lasting(0, 1, 1), 6, 0);
        Check.due("a half without a SCHOOL", x, x.lasting(1, 1, 1), -1, 2);
        Check.due("2 ahead of 5", x, x.lasting(1, 31, 41), -1, 2);
    }

    /** What was built today lasts, too; what melted today is gone. */
    private static void lastingByTheWallsOfNow() {
        SnowForts x = Check.forts("wide 2 high 1;school a hands 40;school b hands 40;snow 0 0 deep 9;wall 1 0 tall 9;");
        x.build(0, 0, 9);
        Check.due("built today", x, x.lasting(0, 2, 3), 3, 0);
        Check.due("built today", x, x.lasting(0, 0, 0), 9, 0);
        x.thaw(5);
        Check.due("melted today", x, x.lasting(1, 1, 3), 1, 0);
        Check.due("melted today", x, x.lasting(1, 0, 0), 4, 0);
    }

    private static void askingChangesNothing() {
        SnowForts x = Twins.full();
        int walls = x.many(6);
        int used = x.school(0, 1);
        int breaches = x.many(4);
        x.room(0, 0);
        x.most(0);
        x.lowest(0);
        x.highest(0);
        x.steepest();
        x.level(0);
        x.unlike();
        x.lasting(0, 9, 9);
        x.lasting(1, 9, 9);
        Check.due("WALLS", x.many(6), walls);
        Check.due("HANDS", x.school(0, 1), used);
        Check.due("BREACHES", x.many(4), breaches);
        Check.due("ICE", x.cell(1, 1, 5), 1);
        Check.due("DAY", x.many(3), 2);
    }
}
