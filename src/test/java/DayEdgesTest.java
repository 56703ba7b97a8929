/** Promises 13 to 23, sentence by sentence: falls, thaws, hands, breaches, nights, each at its bounds. */
public final class DayEdgesTest {
    private static final String TWO = "school a hands 40;school b hands 40;";

    public static void main(String[] args) {
        fallFrom0To40();
        whatIsAbove99RunsOff();
        thawFrom0To40();
        snowFirstThenTheWall();
        thawMeltsNoMoreThanThereIs();
        icedWallDoesNotMelt();
        thawThatMeltsNothing();
        sunOfACell();
        allTogether();
        buildFrom1To40();
        buildAsLongAsThereAreHands();
        buildAsLongAsThereIsSnow();
        buildBelow99();
        buildOfNoneIsNone();
        buildInAHalfWithoutASchool();
        iceOfAWall();
        iceByTwoHands();
        iceInAHalfWithoutASchool();
        stealFrom1To40();
        stealTwoUnitsAHand();
        stealAsLongAsThereAreHands();
        stealAsLongAsThereIsSnow();
        stealAbove99RunsOff();
        stealFromWhere();
        wallArticle();
        wallArticleAcross();
        buildArticle();
        buildArticleCountsAllHands();
        stealArticle();
        iceArticle();
        withoutArticles();
        unitAgainstSeveral();
        firstBreachStays();
        nightEndsTheDay();
        lastDay();
        howManyCells();
        whoseHalf();
        wallsOfASchool();
        Check.end("DayEdgesTest");
    }

    private static void cellIs(String why, SnowForts x, int cx, int cy, int snow, int wall) {
        Check.due(why + ": SNOW", x, x.cell(cx, cy, 0), snow, 0);
        Check.due(why + ": WALL", x, x.cell(cx, cy, 1), wall, 0);
    }

    private static void firstBreachIs(String why, SnowForts x, int... parts) {
        for (int what = 0; what < 5; what++) {
            Check.due(why + ": breach(" + what + ")", x, x.breach(what), parts[what], 0);
        }
    }

    private static void fallFrom0To40() {
        for (int n = -2; n <= 42; n++) {
            SnowForts x = Check.forts("wide 2 high 3;snow 1 2 deep 50;");
            boolean can = n >= 0 && n <= 40;
            Check.due("fall(" + n + ")", x, x.fall(n), can ? 0 : -1, can ? 0 : 5);
            cellIs("fall(" + n + ")", x, 0, 0, can ? n : 0, 0);
            cellIs("fall(" + n + ")", x, 1, 2, can ? 50 + n : 50, 0);
            Check.due("FELL", x.many(9), can ? 6 * n : 0);
        }
    }

    private static void whatIsAbove99RunsOff() {
        SnowForts x = Check.forts("wide 2 high 2;snow 0 0 deep 99;snow 1 0 deep 98;snow 0 1 deep 97;wall 1 1 tall 99;");
        Check.due("fall(0)", x, x.fall(0), 0, 0);
        Check.due("fall(1)", x, x.fall(1), 1, 0);
        cellIs("99 and 1", x, 0, 0, 99, 0);
        cellIs("98 and 1", x, 1, 0, 99, 0);
        cellIs("97 and 1", x, 0, 1, 98, 0);
        Check.due("fall(2)", x, x.fall(2), 2 + 2 + 1, 0);
        cellIs("98 and 2", x, 0, 1, 99, 0);
        cellIs("a wall of 99 holds none of it", x, 1, 1, 3, 99);
        Check.due("RAN OFF", x.many(8), 6);
        Check.due("FELL with what RAN OFF of it", x.many(9), 4 * 3);
        Check.due("fall(40)", x, x.fall(40), 3 * 40, 0);
        Check.due("RAN OFF in all", x.many(8), 126);
        Check.due("all SNOW", x.many(5), 3 * 99 + 43);
    }

    private static void thawFrom0To40() {
        for (int n = -2; n <= 42; n++) {
            SnowForts x = Check.forts("wide 2 high 1;snow 0 0 deep 99;wall 1 0 tall 99;");
            boolean can = n >= 0 && n <= 40;
            Check.due("thaw(" + n + ")", x, x.thaw(n), can ? 2 * n : -1, can ? 0 : 5);
            cellIs("thaw(" + n + ")", x, 0, 0, can ? 99 - n : 99, 0);
            cellIs("thaw(" + n + ")", x, 1, 0, 0, can ? 99 - n : 99);
            Check.due("MELTED", x.many(7), can ? 2 * n : 0);
        }
    }

    private static void snowFirstThenTheWall() {
        for (int n = 0; n <= 9; n++) {
            SnowForts x = Check.forts("wide 2 high 1;snow 0 0 deep 3;wall 0 0 tall 4;");
            Check.due("thaw(" + n + ")", x, x.thaw(n), Math.min(n, 7), 0);
            cellIs("thaw(" + n + ")", x, 0, 0, Math.max(0, 3 - n), Math.max(0, Math.min(4, 7 - n)));
        }
    }

    private static void thawMeltsNoMoreThanThereIs() {
        SnowForts x = Check.forts("wide 2 high 1;snow 0 0 deep 1;wall 1 0 tall 1;sun 0 0 by 9;sun 1 0 by 9;");
        Check.due("thaw(40)", x, x.thaw(40), 2, 0);
        Check.due("thaw(40) of nothing", x, x.thaw(40), 0, 0);
        Check.due("MELTED", x.many(7), 2);
        cellIs("nothing", x, 0, 0, 0, 0);
        cellIs("nothing", x, 1, 0, 0, 0);
    }

    private static void icedWallDoesNotMelt() {
        SnowForts x = Check.forts("wide 2 high 2;" + TWO + "snow 0 0 deep 3;wall 0 0 tall 5;wall 0 1 tall 5;wall 1 0 tall 5;");
        x.ice(0, 0);
        x.ice(1, 0);
        Check.due("its SNOW melts, a WALL that is not", x, x.thaw(9), 3 + 5, 0);
        cellIs("ICED", x, 0, 0, 0, 5);
        cellIs("ICED", x, 1, 0, 0, 5);
        cellIs("not ICED", x, 0, 1, 0, 0);
        Check.due("ICED no more", x, x.cell(0, 0, 5), 0, 0);
        Check.due("ICED no more", x, x.school(0, 3), 0, 0);
        Check.due("ICED no more", x, x.school(1, 3), 0, 0);
        Check.due("the next one melts it", x, x.thaw(4), 8, 0);
        cellIs("the next one", x, 0, 0, 0, 1);
    }

    private static void thawThatMeltsNothing() {
        SnowForts x = Check.forts("wide 2 high 1;" + TWO + "wall 0 0 tall 5;");
        x.ice(0, 0);
        x.fall(0);
        x.night();
        Check.due("a fall, a night leave it", x, x.cell(0, 0, 5), 1, 0);
        Check.due("thaw(0)", x, x.thaw(0), 0, 0);
        Check.due("ICED no more", x, x.cell(0, 0, 5), 0, 0);
        Check.due("its WALL", x, x.cell(0, 0, 1), 5, 0);
        Check.due("ICED again", x, x.ice(0, 0), true, 0);
        Check.due("a thaw that can't be", x, x.thaw(41), -1, 5);
        Check.due("it is ICED", x, x.cell(0, 0, 5), 1, 0);
    }

    private static void sunOfACell() {
        SnowForts x = Check.forts("wide 2 high 2;snow 0 0 deep 60;snow 1 0 deep 60;snow 0 1 deep 60;sun 0 0 by 9;sun 1 0 by 0;");
        Check.due("thaw(0)", x, x.thaw(0), 9, 0);
        Check.due("thaw(40)", x, x.thaw(40), 49 + 40 + 40, 0);
        cellIs("SUN of 9", x, 0, 0, 2, 0);
        cellIs("SUN of 0", x, 1, 0, 20, 0);
        cellIs("without", x, 0, 1, 20, 0);
        for (int i = 0; i < 3; i++) {
            Check.due("SUN stays", x.cell(0, 0, 2), 9);
            x.thaw(1);
        }
    }

    private static void allTogether() {
        SnowForts x = Check.forts("wide 2 high 2;" + TWO + "snow 0 0 deep 97;wall 0 0 tall 9;snow 1 1 deep 80;sun 1 1 by 3;");
        int told = 97 + 9 + 80;
        for (int i = 0; i < 8; i++) {
            x.fall(11);
            x.build(1, 1, 20);
            x.steal(0, 0, 1, 1, 40);
            x.ice(0, 0);
            x.thaw(i);
            x.night();
            Check.due("SNOW, WALLS, MELTED, RAN OFF", x.many(5) + x.many(6) + x.many(7) + x.many(8), told + x.many(9));
        }
        Check.due("all of them count", x.many(5) > 0 && x.many(6) > 0 && x.many(7) > 0 && x.many(8) > 0, true);
    }

    private static void buildFrom1To40() {
        for (int n = -2; n <= 42; n++) {
            SnowForts x = Check.forts("wide 2 high 1;" + TWO + "snow 0 0 deep 99;");
            boolean can = n >= 1 && n <= 40;
            Check.due("build(0, 0, " + n + ")", x, x.build(0, 0, n), can ? n : -1, can ? 0 : 5);
            cellIs("build(0, 0, " + n + ")", x, 0, 0, can ? 99 - n : 99, can ? n : 0);
            Check.due("HANDS used", x.school(0, 1), can ? n : 0);
            Check.due("the other's HANDS", x.school(1, 1), 0);
        }
    }

    private static void buildAsLongAsThereAreHands() {
        for (int hands = 1; hands <= 5; hands++) {
            SnowForts x = Check.forts("wide 2 high 1;school a hands " + hands + ";snow 0 0 deep 99;");
            Check.due("by " + hands, x, x.build(0, 0, 4), Math.min(4, hands), 0);
            Check.due("the last ones", x, x.build(0, 0, 4), hands > 4 ? 1 : -1, hands > 4 ? 0 : 9);
            Check.due("used", x.school(0, 1), hands);
            Check.due("none is left", x, x.build(0, 0, 1), -1, 9);
            cellIs("built", x, 0, 0, 99 - hands, hands);
            x.night();
            Check.due("the next day", x, x.build(0, 0, 1), 1, 0);
        }
        SnowForts x = Check.forts("wide 2 high 1;school a hands 0;snow 0 0 deep 99;");
        Check.due("a school without HANDS", x, x.build(0, 0, 1), -1, 9);
    }

    private static void buildAsLongAsThereIsSnow() {
        for (int snow = 0; snow <= 5; snow++) {
            SnowForts x = Check.forts("wide 4 high 1;" + TWO + "snow 1 0 deep " + snow + ";snow 0 0 deep 9;");
            Check.due("of " + snow, x, x.build(1, 0, 4), snow == 0 ? -1 : Math.min(4, snow), snow == 0 ? 9 : 0);
            cellIs("the cell beside", x, 0, 0, 9, 0);
            Check.due("HANDS used", x.school(0, 1), Math.min(4, snow));
        }
    }

    private static void buildBelow99() {
        for (int wall = 94; wall <= 99; wall++) {
            SnowForts x = Check.forts("wide 2 high 1;" + TWO + "snow 1 0 deep 50;wall 1 0 tall " + wall + ";");
            int units = Math.min(4, 99 - wall);
            Check.due("from " + wall, x, x.build(1, 0, 4), units == 0 ? -1 : units, units == 0 ? 9 : 0);
            cellIs("from " + wall, x, 1, 0, 50 - units, wall + units);
            Check.due("HANDS used", x.school(1, 1), units);
        }
    }

    private static void buildOfNoneIsNone() {
        SnowForts x = Check.forts("wide 2 high 1;school a hands 3;no wall above 0;no build behind 0;wall 0 0 tall 1;");
        x.look(0, 0);
        Check.due("none", x, x.build(0, 0, 3), -1, 9);
        Check.due("no BREACH", x, x.many(4), 0, 0);
        Check.due("no HANDS", x, x.school(0, 1), 0, 0);
        Check.due("it is known yet", x, x.hiding(0), 0, 0);
    }

    private static void buildInAHalfWithoutASchool() {
        SnowForts x = Check.forts("wide 6 high 1;school a hands 9;");
        x.fall(9);
        for (int column = -1; column <= 6; column++) {
            boolean can = column >= 0 && column < 3;
            Check.due("build in column " + column, x, x.build(column, 0, 1), can ? 1 : -1, can ? 0 : 2);
            Check.due("build of 0 there", x, x.build(column, 0, 0), -1, can ? 5 : 2);
        }
        x = new SnowForts();
        x.fall(9);
        Check.due("no school at all", x, x.build(0, 0, 1), -1, 2);
        Check.due("no school at all", x, x.build(1, 0, 1), -1, 2);
    }

    private static void iceOfAWall() {
        SnowForts x = Check.forts("wide 2 high 2;" + TWO + "snow 0 0 deep 9;wall 0 1 tall 1;");
        Check.due("a WALL of 0", x, x.ice(0, 0), false, 9);
        Check.due("a WALL of 1", x, x.ice(0, 1), true, 0);
        Check.due("it is ICED", x, x.cell(0, 1, 5), 1, 0);
        Check.due("ICED again", x, x.ice(0, 1), false, 9);
        Check.due("two HANDS", x, x.school(0, 1), 2, 0);
        Check.due("ICED CELLS", x, x.school(0, 3), 1, 0);
        Check.due("its WALL", x, x.cell(0, 1, 1), 1, 0);
        x.build(0, 0, 1);
        Check.due("as soon as it is 1", x, x.ice(0, 0), true, 0);
        Check.due("ICED CELLS", x, x.school(0, 3), 2, 0);
        Check.due("the other school's", x, x.school(1, 3), 0, 0);
    }

    private static void iceByTwoHands() {
        for (int hands = 0; hands <= 5; hands++) {
            SnowForts x = Check.forts("wide 4 high 1;school a hands 9;school b hands " + hands + ";wall 2 0 tall 1;wall 3 0 tall 1;");
            Check.due("by " + hands, x, x.ice(2, 0), hands >= 2, hands >= 2 ? 0 : 9);
            Check.due("the second one", x, x.ice(3, 0), hands >= 4, hands >= 4 ? 0 : 9);
            Check.due("used", x.school(1, 1), hands / 2 * 2);
            Check.due("ICED CELLS", x.school(1, 3), hands / 2);
            Check.due("the other's HANDS", x.school(0, 1), 0);
        }
    }

    private static void iceInAHalfWithoutASchool() {
        SnowForts x = Check.forts("wide 4 high 1;school a hands 9;wall 0 0 tall 3;wall 1 0 tall 3;wall 2 0 tall 3;wall 3 0 tall 3;");
        for (int column = -1; column <= 4; column++) {
            boolean can = column == 0 || column == 1;
            Check.due("ice in column " + column, x, x.ice(column, 0), can, can ? 0 : 2);
        }
    }

    private static void stealFrom1To40() {
        for (int n = -2; n <= 42; n++) {
            SnowForts x = Check.forts("wide 2 high 1;" + TWO + "snow 1 0 deep 99;");
            boolean can = n >= 1 && n <= 40;
            Check.due("steal of " + n, x, x.steal(0, 0, 1, 0, n), can ? n : -1, can ? 0 : 5);
            cellIs("to", x, 0, 0, can ? n : 0, 0);
            cellIs("from", x, 1, 0, can ? 99 - n : 99, 0);
            Check.due("HANDS used", x.school(0, 1), can ? (n + 1) / 2 : 0);
            Check.due("the other's HANDS", x.school(1, 1), 0);
        }
    }

    private static void stealTwoUnitsAHand() {
        for (int n = 1; n <= 6; n++) {
            SnowForts x = Check.forts("wide 2 high 1;school a hands 3;snow 1 0 deep 99;");
            Check.due("steal of " + n, x, x.steal(0, 0, 1, 0, n), n, 0);
            Check.due("HANDS used", x.school(0, 1), (n + 1) / 2);
        }
    }

    private static void stealAsLongAsThereAreHands() {
        for (int hands = 0; hands <= 4; hands++) {
            SnowForts x = Check.forts("wide 2 high 1;school a hands " + hands + ";snow 1 0 deep 99;");
            int units = Math.min(5, 2 * hands);
            Check.due("by " + hands, x, x.steal(0, 0, 1, 0, 5), units == 0 ? -1 : units, units == 0 ? 9 : 0);
            cellIs("from", x, 1, 0, 99 - units, 0);
            Check.due("HANDS used", x.school(0, 1), Math.min(hands, 3));
        }
    }

    private static void stealAsLongAsThereIsSnow() {
        for (int snow = 0; snow <= 6; snow++) {
            SnowForts x = Check.forts("wide 2 high 1;" + TWO + "snow 1 0 deep " + snow + ";wall 1 0 tall 9;");
            int units = Math.min(5, snow);
            Check.due("of " + snow, x, x.steal(0, 0, 1, 0, 5), units == 0 ? -1 : units, units == 0 ? 9 : 0);
            cellIs("its WALL stays", x, 1, 0, snow - units, 9);
            Check.due("HANDS used", x.school(0, 1), (units + 1) / 2);
        }
    }

    private static void stealAbove99RunsOff() {
        for (int snow = 93; snow <= 99; snow++) {
            SnowForts x = Check.forts("wide 2 high 1;" + TWO + "snow 0 0 deep 50;snow 1 0 deep " + snow + ";");
            Check.due("to " + snow, x, x.steal(1, 0, 0, 0, 4), 4, 0);
            cellIs("to " + snow, x, 1, 0, Math.min(99, snow + 4), 0);
            cellIs("from", x, 0, 0, 46, 0);
            Check.due("RAN OFF", x.many(8), Math.max(0, snow + 4 - 99));
            Check.due("nothing FELL", x.many(9), 0);
        }
    }

    /** Of a half without a SCHOOL snow may be taken; to it, and within one half, none. */
    private static void stealFromWhere() {
        for (int to = -1; to <= 4; to++) {
            for (int from = -1; from <= 4; from++) {
                SnowForts x = Check.forts("wide 4 high 1;school a hands 9;");
                x.fall(9);
                boolean cells = to >= 0 && to < 2 && from >= 0 && from < 4;
                boolean can = cells && from >= 2;
                Check.due("steal to " + to + " from " + from, x, x.steal(to, 0, from, 0, 3), can ? 3 : -1, can ? 0 : cells ? 9 : 2);
                Check.due("of 0 units", x, x.steal(to, 0, from, 0, 0), -1, cells ? 5 : 2);
                Check.due("snow", x.many(5), 36);
            }
        }
    }

    /** A BREACH for each unit above the last night's WALL ACROSS and so much. */
    private static void wallArticle() {
        for (int more = 0; more <= 20; more += 5) {
            SnowForts x = Check.forts("wide 2 high 1;" + TWO + "no wall above " + more + ";snow 0 0 deep 99;wall 1 0 tall 7;");
            x.build(0, 0, 7 + more);
            Check.due("up to it", x, x.many(4), 0, 0);
            Check.due("none yet", x, x.breach(0), -1, 8);
            x.build(0, 0, 1);
            Check.due("one above it", x, x.many(4), 1, 0);
            x.build(0, 0, 3);
            Check.due("each unit", x, x.many(4), 4, 0);
            Check.due("of its SCHOOL", x, x.school(0, 2), 4, 0);
            Check.due("of the other", x, x.school(1, 2), 0, 0);
            Check.due("it is done all the same", x, x.cell(0, 0, 1), 11 + more, 0);
            firstBreachIs("wall", x, 0, 0, 0, 0, 0);
        }
    }

    private static void wallArticleAcross() {
        SnowForts x = Check.forts("wide 6 high 2;" + TWO + "no wall above 2;wall 1 1 tall 3;snow 4 1 deep 40;snow 1 1 deep 40;");
        x.build(1, 1, 2);
        Check.due("the WALL ACROSS was 0", x, x.many(4), 2, 0);
        x.build(4, 1, 5);
        Check.due("3 at the last night, and 2", x, x.many(4), 2, 0);
        x.build(4, 1, 1);
        Check.due("not what it is by now", x, x.many(4), 3, 0);
        x.night();
        x.build(4, 1, 1);
        Check.due("5 at the last night, and 2", x, x.many(4), 3, 0);
        x.build(4, 1, 1);
        Check.due("one above that", x, x.many(4), 4, 0);
        firstBreachIs("across", x, 0, 0, 0, 1, 1);
    }

    private static void buildArticle() {
        for (int limit = 0; limit <= 40; limit += 8) {
            SnowForts x = Check.forts("wide 2 high 1;" + TWO + "no build behind " + limit + ";snow 1 0 deep 99;");
            if (limit > 0) {
                x.build(1, 0, limit);
            }
            Check.due("up to it", x, x.many(4), 0, 0);
            int units = x.build(1, 0, 3);
            Check.due("each unit behind it", x, x.many(4), limit == 40 ? 0 : 3, 0);
            Check.due("done all the same", units, limit == 40 ? -1 : 3);
            x.night();
            x.build(1, 0, 1);
            Check.due("the next day begins anew", x, x.many(4), (limit == 40 ? 0 : 3) + (limit == 0 ? 1 : 0), 0);
        }
    }

    private static void buildArticleCountsAllHands() {
        SnowForts x = Check.forts("wide 2 high 2;" + TWO + "no build behind 4;snow 0 0 deep 99;wall 0 1 tall 5;snow 1 0 deep 9;");
        x.ice(0, 1);
        x.steal(0, 0, 1, 0, 3);
        Check.due("no building yet", x, x.many(4), 0, 0);
        x.build(0, 0, 1);
        Check.due("four HANDS were used", x, x.many(4), 1, 0);
        firstBreachIs("build", x, 0, 1, 0, 0, 0);
        x.steal(0, 0, 1, 0, 3);
        x.thaw(0);
        x.ice(0, 1);
        Check.due("a steal, an ice are no building", x, x.many(4), 1, 0);
        x.build(1, 0, 1);
        Check.due("the other's HANDS are its own", x, x.many(4), 1, 0);
    }

    private static void stealArticle() {
        for (int n = 1; n <= 6; n++) {
            SnowForts x = Check.forts("wide 4 high 2;" + TWO + "no steal;snow 0 1 deep 9;");
            x.night();
            Check.due("steal of " + n, x, x.steal(3, 0, 0, 1, n), n, 0);
            Check.due("each HAND", x, x.many(4), (n + 1) / 2, 0);
            Check.due("of its SCHOOL", x, x.school(1, 2), (n + 1) / 2, 0);
            firstBreachIs("the CELL from which", x, 1, 2, 1, 0, 1);
        }
    }

    private static void iceArticle() {
        for (int limit = 0; limit <= 3; limit++) {
            SnowForts x = Check.forts("wide 4 high 2;" + TWO + "no ice above " + limit + ";wall 2 0 tall 1;wall 3 0 tall 1;"
                + "wall 2 1 tall 1;wall 3 1 tall 1;wall 0 0 tall 1;");
            x.ice(0, 0);
            Check.due("the other's ICE", x, x.many(4), limit == 0 ? 1 : 0, 0);
            int before = x.many(4);
            for (int i = 1; i <= 4; i++) {
                Check.due("done all the same", x, x.ice(2 + (i - 1) % 2, (i - 1) / 2), true, 0);
                Check.due("each CELL above so many", x, x.school(1, 2), Math.max(0, i - limit), 0);
            }
            Check.due("the other's stay", x.school(0, 2), before);
            if (limit > 0) {
                firstBreachIs("ice", x, 1, 3, 0, 2 + limit % 2, limit / 2);
            }
        }
    }

    private static void withoutArticles() {
        SnowForts x = Check.forts("wide 2 high 1;" + TWO + "snow 0 0 deep 99;");
        x.build(0, 0, 30);
        x.ice(0, 0);
        x.steal(1, 0, 0, 0, 40);
        Check.due("it may do all", x, x.many(4), 0, 0);
        Check.due("there was none", x, x.breach(0), -1, 8);
    }

    /** One for each ARTICLE that it is against; the first one names the least of several. */
    private static void unitAgainstSeveral() {
        SnowForts x = Check.forts("wide 2 high 1;" + TWO + "no build behind 1;no wall above 2;snow 0 0 deep 9;");
        x.build(0, 0, 4);
        Check.due("the 2nd, 3rd, 4th by build, the 3rd, 4th by wall", x, x.many(4), 5, 0);
        firstBreachIs("the 2nd unit", x, 0, 1, 0, 0, 0);
        x = Check.forts("wide 2 high 1;" + TWO + "no build behind 2;no wall above 2;snow 0 0 deep 9;");
        x.build(0, 0, 3);
        Check.due("both", x, x.many(4), 2, 0);
        firstBreachIs("the least", x, 0, 0, 0, 0, 0);
    }

    private static void firstBreachStays() {
        SnowForts x = Check.forts("wide 4 high 3;" + TWO + "no steal;no build behind 0;no wall above 0;no ice above 0;snow 3 2 deep 9;"
            + "snow 0 0 deep 9;");
        x.night();
        x.night();
        x.night();
        x.steal(1, 1, 3, 2, 1);
        for (int i = 0; i < 2; i++) {
            firstBreachIs("the FIRST one", x, 0, 2, 3, 3, 2);
            x.build(0, 0, 2);
            x.ice(0, 0);
            x.night();
            x.steal(3, 0, 0, 0, 2);
        }
        Check.due("many more", x.many(4) > 8, true);
    }

    private static void nightEndsTheDay() {
        SnowForts x = Check.forts("wide 2 high 1;school a hands 5;school b hands 5;snow 0 0 deep 50;snow 1 0 deep 50;wall 1 0 tall 2;");
        x.build(0, 0, 3);
        x.build(1, 0, 5);
        Check.due("last night's WALL by day", x, x.cell(0, 0, 3), 0, 0);
        Check.due("last night's WALL by day", x, x.cell(1, 0, 3), 2, 0);
        Check.due("night()", x, x.night(), 1, 0);
        Check.due("last night's WALL", x, x.cell(0, 0, 3), 3, 0);
        Check.due("last night's WALL", x, x.cell(1, 0, 3), 7, 0);
        Check.due("no HANDS are used", x, x.school(0, 1), 0, 0);
        Check.due("no HANDS are used", x, x.school(1, 1), 0, 0);
        x.thaw(40);
        x.thaw(40);
        Check.due("last night's WALL by day", x, x.cell(1, 0, 3), 7, 0);
        Check.due("night()", x, x.night(), 2, 0);
        Check.due("what is melted", x, x.cell(1, 0, 3), 0, 0);
    }

    private static void lastDay() {
        SnowForts x = Check.forts("wide 2 high 1;school a hands 5;snow 0 0 deep 50;");
        Check.orders(x, "loop 99;loop 2;night;end;end;");
        // 198 nights each
        for (int i = 0; i < 5; i++) {
            x.run(0);
        }
        int day = x.many(3);
        Check.due("near the last day", day > 900 && day < 999, true);
        for (int next = day + 1; next <= 999; next++) {
            Check.due("night()", x, x.night(), next, 0);
        }
        x.build(0, 0, 4);
        Check.due("DAY 999", x, x.night(), -1, 7);
        Check.due("DAY 999", x, x.many(3), 999, 0);
        Check.due("the HANDS stay used", x, x.school(0, 1), 4, 0);
        Check.due("last night's WALL", x, x.cell(0, 0, 3), 0, 0);
        Check.due("DAY 999", x, x.night(), -1, 7);
        Check.orders(x, "night;when day>998;night;end;");
        Check.due("by ORDERS", x, x.run(0), 3, 0);
        Check.due("MISSED", x, x.ran(0), 2, 0);
        Check.due("DAY 999", x, x.many(3), 999, 0);
    }

    private static void howManyCells() {
        SnowForts x = Check.forts("wide 6 high 6;");
        x.fall(40);
        Check.due("all SNOW", x, x.many(5), 36 * 40, 0);
        x.fall(40);
        x.fall(40);
        Check.due("all full", x, x.many(5), 36 * 99, 0);
        Check.due("RAN OFF", x, x.many(8), 36 * 21, 0);
        Check.due("FELL", x, x.many(9), 36 * 120, 0);
        Check.due("thaw(40)", x, x.thaw(40), 36 * 40, 0);
        Check.due("MELTED", x, x.many(7), 36 * 40, 0);
    }

    private static void whoseHalf() {
        for (int wide = 2; wide <= 6; wide += 2) {
            for (int schools = 0; schools <= 2; schools++) {
                String text = "wide " + wide + " high 2;" + (schools > 0 ? "school a hands 1;" : "") + (schools > 1 ? "school b hands 1;" : "");
                SnowForts x = Check.forts(text);
                for (int column = 0; column < wide; column++) {
                    Check.due("half of column " + column, x, x.cell(column, 1, 4), 2 * column < wide ? 0 : 1, 0);
                }
                for (int school = -1; school <= 3; school++) {
                    boolean is = school >= 0 && school < schools;
                    Check.due("SCHOOL " + school, x, x.school(school, 0), is ? 1 : -1, is ? 0 : 2);
                    Check.due("SCHOOL " + school + ", no such what", x, x.school(school, 5), -1, is ? 5 : 2);
                }
            }
        }
    }

    private static void wallsOfASchool() {
        SnowForts x = Check.forts("wide 6 high 2;" + TWO + "wall 0 0 tall 1;wall 2 1 tall 20;wall 3 0 tall 30;wall 5 1 tall 99;");
        Check.due("left", x, x.school(0, 4), 21, 0);
        Check.due("right", x, x.school(1, 4), 129, 0);
        Check.due("all", x, x.many(6), 150, 0);
    }
}
