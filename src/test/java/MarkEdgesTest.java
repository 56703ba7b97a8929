/** Promises 47 and 48, sentence by sentence: at most 3 MARKS, all that is taken back, all that is not. */
public final class MarkEdgesTest {
    private static final String YARD = "wide 2 high 2;school a hands 30;school b hands 30;no wall above 1;no build behind 4;"
        + "no steal;no ice above 0;snow 0 0 deep 90;snow 1 0 deep 20;wall 0 1 tall 5;wall 1 1 tall 6;sun 0 1 by 2;";

    public static void main(String[] args) {
        atMostThreeMarks();
        noneIsLeft();
        marksAreGoneThen();
        marksWithinMarks();
        eachPartIsTakenBack();
        ordersAreTakenBack();
        noOrdersAreTakenBack();
        nothingBetweenThem();
        otherYardsAreTakenBack();
        day999IsTakenBack();
        fullCellsAreTakenBack();
        runsWithinMarks();
        newYardKeepsMarks();
        faultsKeepMarks();
        whatIsNoPartStays();
        Check.end("MarkEdgesTest");
    }

    private static void atMostThreeMarks() {
        SnowForts x = new SnowForts();
        for (int i = 1; i <= 3; i++) {
            Check.due("mark()", x, x.mark(), i, 0);
        }
        for (int i = 0; i < 5; i++) {
            Check.due("a fourth one", x, x.mark(), -1, 7);
        }
        Check.due("back()", x, x.back(), 2, 0);
        Check.due("a third one again", x, x.mark(), 3, 0);
        Check.due("a fourth one", x, x.mark(), -1, 7);
        for (int i = 2; i >= 0; i--) {
            Check.due("back()", x, x.back(), i, 0);
        }
        Check.due("back() without any", x, x.back(), -1, 8);
    }

    private static void noneIsLeft() {
        SnowForts x = Check.forts(YARD);
        Check.due("back() ahead of any", x, x.back(), -1, 8);
        x.fall(3);
        Check.due("back() ahead of any", x, x.back(), -1, 8);
        Check.due("nothing is taken back", x.cell(1, 0, 0), 23);
        Check.due("mark()", x, x.mark(), 1, 0);
        x.fall(4);
        Check.due("back()", x, x.back(), 0, 0);
        x.fall(5);
        for (int i = 0; i < 5; i++) {
            Check.due("back() again", x, x.back(), -1, 8);
        }
        Check.due("the MARK that is gone is not taken again", x.cell(1, 0, 0), 28);
        Check.due("as many as ever", x, x.mark(), 1, 0);
        Check.due("as many as ever", x, x.mark(), 2, 0);
        Check.due("as many as ever", x, x.mark(), 3, 0);
    }

    /** The latest one is gone; the one ahead of it is as it was, and another one comes behind it. */
    private static void marksAreGoneThen() {
        SnowForts x = new SnowForts();
        x.mark();
        x.fall(1);
        x.mark();
        x.fall(2);
        Check.due("back()", x, x.back(), 1, 0);
        Check.due("to the second", x.cell(0, 0, 0), 1);
        x.fall(4);
        Check.due("another second", x, x.mark(), 2, 0);
        x.fall(8);
        Check.due("back()", x, x.back(), 1, 0);
        Check.due("to the other second", x.cell(0, 0, 0), 5);
        Check.due("back()", x, x.back(), 0, 0);
        Check.due("to the first", x.cell(0, 0, 0), 0);
        Check.due("what fell is taken back", x.many(9), 0);
    }

    private static void marksWithinMarks() {
        // all rows of marks (m) and backs (b) of 8 calls, beside a plain row of snows
        for (int bits = 0; bits < 256; bits++) {
            SnowForts x = new SnowForts();
            int[] kept = new int[4];
            int marks = 0;
            int snow = 0;
            for (int call = 0; call < 8; call++) {
                x.fall(1);
                snow++;
                if ((bits >> call & 1) == 0) {
                    boolean can = marks < 3;
                    kept[marks] = snow;
                    marks += can ? 1 : 0;
                    Check.due("mark()", x, x.mark(), can ? marks : -1, can ? 0 : 7);
                } else {
                    boolean can = marks > 0;
                    marks -= can ? 1 : 0;
                    snow = can ? kept[marks] : snow;
                    Check.due("back()", x, x.back(), can ? marks : -1, can ? 0 : 8);
                }
                Check.due("snow", x.cell(1, 0, 0), snow);
            }
        }
    }

    /** One thing alone changes behind a MARK, for each thing that can; all tells the same as without it then. */
    private static void eachPartIsTakenBack() {
        for (int change = 0; change < 16; change++) {
            SnowForts asked = past();
            SnowForts other = past();
            Check.due("mark()", asked, asked.mark(), 1, 0);
            change(asked, change);
            Check.due("back()", asked, asked.back(), 0, 0);
            Twins.alike("behind the change " + change, asked, other);
            SnowForts changed = past();
            change(changed, change);
            Check.due("it is a change: " + change, Twins.allOf(changed).equals(Twins.allOf(past())), false);
        }
    }

    private static SnowForts past() {
        SnowForts x = Check.forts(YARD);
        x.build(0, 0, 6);
        x.ice(0, 1);
        x.look(0, 1);
        x.steal(0, 0, 1, 0, 5);
        x.night();
        x.fall(30);
        x.thaw(1);
        x.ice(1, 1);
        x.look(1, 1);
        x.build(1, 0, 5);
        Check.orders(x, "storm 1 to 9;build 0 0 by 3;loop 2;steal 1 1 from 0 0 by 3;night;end;ice 0 1;");
        return x;
    }

    private static void change(SnowForts x, int change) {
        switch (change) {
            case 0:
                x.build(0, 0, 1);
                break;
            case 1:
                x.build(1, 1, 40);
                break;
            case 2:
                x.ice(0, 1);
                break;
            case 3:
                x.ice(0, 0);
                break;
            case 4:
                x.steal(0, 1, 1, 0, 7);
                break;
            case 5:
                x.steal(1, 0, 0, 0, 1);
                break;
            case 6:
                x.fall(1);
                break;
            case 7:
                x.fall(40);
                break;
            case 8:
                x.thaw(0);
                break;
            case 9:
                x.thaw(40);
                break;
            case 10:
                x.night();
                break;
            case 11:
                x.look(0, 1);
                break;
            case 12:
                x.look(0, 0);
                break;
            case 13:
                Check.orders(x, "");
                break;
            default:
                Check.yard(x, change == 14 ? "wide 6 high 6;snow 0 0 deep 3;" : YARD);
                break;
        }
        // a text with no FAULT: what fault() tells is no part of the YARD
        Check.due("a change " + change, x.fault(0), 0);
    }

    private static void ordersAreTakenBack() {
        String[] steps = {"fall 2;", "thaw 2;", "storm 3 to 30;", "build 0 0 by 2;", "build 1 0 by 3;", "ice 0 1;", "ice 1 1;",
            "steal 0 1 from 1 0 by 3;", "steal 1 1 from 0 0 by 4;", "night;", "when breach;fall 1;end;", "when day<1;fall 1;end;",
            "when day>0;fall 1;end;", "when day=0;fall 1;end;", "when wall 0 1>4;fall 1;end;", "when wall 1 1>5;fall 1;end;",
            "when way<300;fall 1;end;", "loop 2;fall 3;end;", "loop 3;night;end;", "stop;", ""};
        for (String first : steps) {
            for (String second : steps) {
                SnowForts asked = Check.forts(YARD);
                SnowForts other = Check.forts(YARD);
                Check.orders(asked, first + "fall 1;");
                Check.orders(other, first + "fall 1;");
                asked.mark();
                Check.orders(asked, second + "thaw 9;night;");
                asked.back();
                Check.due("steps", asked, asked.run(9), other.run(9), 0);
                for (int what = 0; what < 10; what++) {
                    Check.due(first + " behind " + second + " many(" + what + ")", asked.many(what), other.many(what));
                }
                for (int cell = 0; cell < 4; cell++) {
                    Check.due("snow", asked.cell(cell / 2, cell % 2, 0), other.cell(cell / 2, cell % 2, 0));
                    Check.due("wall", asked.cell(cell / 2, cell % 2, 1), other.cell(cell / 2, cell % 2, 1));
                    Check.due("ice", asked.cell(cell / 2, cell % 2, 5), other.cell(cell / 2, cell % 2, 5));
                }
            }
        }
    }

    private static void noOrdersAreTakenBack() {
        SnowForts x = new SnowForts();
        x.mark();
        Check.orders(x, "");
        Check.due("there are ORDERS", x, x.run(0), 0, 0);
        x.back();
        Check.due("there are none", x, x.run(0), -1, 8);
        Check.due("there are none", x, x.peaces(0, 1), false, 8);
        Check.orders(x, "");
        x.mark();
        Check.yard(x, "wide 2 high 1;");
        Check.due("there are none", x, x.run(0), -1, 8);
        x.back();
        Check.due("the empty ones", x, x.run(0), 0, 0);
    }

    private static void nothingBetweenThem() {
        SnowForts asked = past();
        SnowForts other = past();
        for (int i = 1; i <= 3; i++) {
            Check.due("mark()", asked, asked.mark(), i, 0);
        }
        for (int i = 2; i >= 0; i--) {
            Check.due("back()", asked, asked.back(), i, 0);
        }
        Twins.alike("behind marks with nothing between", asked, other);
    }

    private static void otherYardsAreTakenBack() {
        String[] yards = {"wide 2 high 1;", "wide 6 high 6;school c hands 1;snow 5 5 deep 7;sun 3 3 by 3;no steal;",
            "wide 4 high 3;school d hands 2;school e hands 3;wall 3 2 tall 8;no ice above 4;"};
        SnowForts x = Check.forts(yards[0]);
        x.mark();
        Check.yard(x, yards[1]);
        x.mark();
        Check.yard(x, yards[2]);
        x.mark();
        Check.yard(x, YARD);
        x.night();
        Check.due("back()", x.back(), 2);
        Check.due("cells of the third", x.many(0) * x.many(1), 12);
        Check.due("its wall", x.cell(3, 2, 1), 8);
        Check.due("its article", x, x.article(3), 4, 0);
        Check.due("its hands", x.school(1, 0), 3);
        Check.due("back()", x.back(), 1);
        Check.due("cells of the second", x.many(0) * x.many(1), 36);
        Check.due("its snow", x.cell(5, 5, 0), 7);
        Check.due("its sun", x.cell(3, 3, 2), 3);
        Check.due("its articles", x, x.article(3), -1, 8);
        Check.due("its articles", x, x.article(2), 0, 0);
        Check.due("its schools", x.many(2), 1);
        Check.due("back()", x.back(), 0);
        Check.due("cells of the first", x.many(0) * x.many(1), 2);
        Check.due("its schools", x, x.school(0, 0), -1, 2);
        Check.due("its articles", x, x.article(2), -1, 8);
        Check.due("all its snow", x.many(5), 0);
    }

    private static void day999IsTakenBack() {
        SnowForts x = new SnowForts();
        Check.orders(x, "loop 99;night;night;night;end;");
        for (int i = 0; i < 3; i++) {
            x.run(0);
        }
        x.mark();
        for (int i = 0; i < 2; i++) {
            x.run(0);
        }
        Check.due("the last day", x.many(3), 999);
        Check.due("no night more", x, x.night(), -1, 7);
        Check.due("back()", x, x.back(), 0, 0);
        Check.due("the day", x.many(3), 891);
        Check.due("a night more", x, x.night(), 892, 0);
    }

    private static void fullCellsAreTakenBack() {
        SnowForts x = Check.forts("wide 2 high 1;school a hands 40;snow 0 0 deep 98;wall 0 0 tall 98;");
        x.mark();
        Check.due("one of two runs off", x.fall(2), 1);
        Check.due("up to 99", x.build(0, 0, 9), 1);
        x.mark();
        Check.due("no more", x, x.build(0, 0, 1), -1, 9);
        x.thaw(40);
        Check.due("back()", x.back(), 1);
        Check.due("WALL of 99", x.cell(0, 0, 1), 99);
        Check.due("SNOW of 98", x.cell(0, 0, 0), 98);
        Check.due("it RAN OFF", x.many(8), 1);
        Check.due("none MELTED", x.many(7), 0);
        Check.due("no more", x, x.build(0, 0, 1), -1, 9);
        Check.due("back()", x.back(), 0);
        Check.due("WALL of 98", x.cell(0, 0, 1), 98);
        Check.due("none RAN OFF", x.many(8), 0);
        Check.due("none FELL", x.many(9), 0);
    }

    private static void runsWithinMarks() {
        SnowForts x = Check.forts(YARD);
        Check.orders(x, "storm 0 to 40;build 0 0 by 3;night;");
        for (int seed = 0; seed < 100; seed += 7) {
            SnowForts other = Check.forts(YARD);
            Check.orders(other, "storm 0 to 40;build 0 0 by 3;night;");
            other.run(seed);
            x.mark();
            x.run(seed);
            for (int what = 3; what < 10; what++) {
                Check.due("many(" + what + ") by the seed " + seed, x.many(what), other.many(what));
            }
            Check.due("back()", x, x.back(), 0, 0);
        }
        Check.due("DAY", x.many(3), 0);
    }

    private static void newYardKeepsMarks() {
        SnowForts x = Check.forts(YARD);
        x.mark();
        x.mark();
        Check.yard(x, "wide 6 high 1;");
        Check.due("a third one", x, x.mark(), 3, 0);
        Check.yard(x, "wide 4 high 1;");
        Check.due("a fourth one", x, x.mark(), -1, 7);
        Check.due("back()", x, x.back(), 2, 0);
        Check.due("wide", x.many(0), 6);
        Check.due("back()", x, x.back(), 1, 0);
        Check.due("high", x.many(1), 2);
    }

    private static void faultsKeepMarks() {
        SnowForts x = Check.forts(YARD);
        Check.orders(x, "fall 7;");
        x.mark();
        Check.faulty("a FAULT", x, true, "wide 6 high 6;school a hands 3;Q", 1, 31);
        Check.faulty("a FAULT", x, false, "thaw 1;night", 2, 12);
        x.fall(1);
        Check.due("back()", x, x.back(), 0, 0);
        Check.due("the yard as it was", x.cell(0, 0, 0), 90);
        Check.due("fault() tells the latest", x.fault(1), 12);
        x.run(0);
        Check.due("its ORDERS", x.cell(0, 0, 0), 97);
    }

    /** Neither the YARD nor the ORDERS: TRAYS, the tape, the FRACTION, and what was told latest. */
    private static void whatIsNoPartStays() {
        SnowForts x = Check.forts(YARD);
        x.mark();
        Check.row(x, 0, 0, 8, 4, 4);
        x.stands(3, 2, 0);
        long top = x.top();
        Check.due("works()", x, x.works(0, 0, 2), 1, 0);
        Check.orders(x, "fall 1;build 0 0 by 3;ice 1 0;");
        x.run(0);
        x.fall(40);
        int cost = x.way();
        Check.due("a COST", cost > 4, true);
        Check.yard(x, "wide 2 high 1;wall 9");
        x.feed(0x77696465, 0x20342068, 0x69676820, 0x333b2020, 0x20202020);
        Check.due("back()", x, x.back(), 0, 0);
        Check.due("TRAYS", x, x.read(0, 1), 8, 0);
        Check.due("a TRAY that is MISSING", x, x.read(1, 0), -1, 3);
        Check.due("top()", x.top(), top);
        Check.due("bottom() of 15/16", x.bottom() > 1, true);
        Check.due("worked(1)", x, x.worked(1), 8, 0);
        Check.due("ran(0)", x, x.ran(0), 1, 0);
        Check.due("ran(1)", x, x.ran(1), 3, 0);
        Check.due("wayAt(0, 0)", x, x.wayAt(0, 0), 0, 0);
        Check.due("fault(0)", x.fault(0), 4);
        Check.due("fault(1)", x.fault(1), 19);
        Check.due("the tape", x, x.yard(20), 12, 0);
        Check.due("no MARK", x, x.back(), -1, 8);
    }
}
