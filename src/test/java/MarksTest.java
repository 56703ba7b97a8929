/** Promises 47 and 48: marks to which all is taken back. */
public final class MarksTest {
    public static void main(String[] args) {
        marksAreCounted();
        allIsTakenBack();
        ordersAreTakenBack();
        partsOfOrdersAreTakenBack();
        anotherYardIsTakenBack();
        whatIsNoPartStays();
        Check.end("MarksTest");
    }

    private static void marksAreCounted() {
        SnowForts x = new SnowForts();
        Check.due("back()", x, x.back(), -1, 8);
        for (int i = 1; i <= 3; i++) {
            Check.due("mark()", x, x.mark(), i, 0);
            x.fall(i);
        }
        Check.due("a fourth one", x, x.mark(), -1, 7);
        int[] snow = {6, 2, 0};
        for (int i = 2; i >= 0; i--) {
            Check.due("back()", x, x.back(), i, 0);
            Check.due("snow", x.many(5), snow[2 - i]);
        }
        Check.due("back()", x, x.back(), -1, 8);
        Check.due("mark()", x, x.mark(), 1, 0);
    }

    private static final String YARD = "wide 4 high 2;school a hands 20;school b hands 9;no build behind 2;no steal;"
        + "snow 0 0 deep 90;wall 1 1 tall 4;sun 1 1 by 2;snow 3 0 deep 9;snow 0 1 deep 3;";

    /** All that tells of the yard, as a text. */
    private static String told(SnowForts x) {
        StringBuilder all = new StringBuilder();
        for (int what = 0; what < 10; what++) {
            all.append(x.many(what)).append(' ');
        }
        for (int cell = 0; cell < 8; cell++) {
            for (int what = 0; what < 6; what++) {
                all.append(x.cell(cell % 4, cell / 4, what)).append(' ');
            }
        }
        for (int what = 0; what < 5; what++) {
            all.append(x.school(0, what)).append(' ').append(x.school(1, what)).append(' ');
            all.append(x.article(what)).append(' ').append(x.breach(what)).append(' ');
        }
        all.append(x.hiding(0)).append(' ').append(x.hiding(1)).append(' ').append(x.way());
        return all.toString();
    }

    private static void allIsTakenBack() {
        SnowForts x = Check.forts(YARD);
        x.build(0, 0, 1);
        x.ice(1, 1);
        x.look(1, 1);
        x.night();
        x.fall(11);
        x.thaw(0);
        x.ice(1, 1);
        x.build(1, 0, 3);
        x.steal(3, 1, 0, 0, 1);
        x.look(0, 0);
        String then = told(x);
        Check.due("mark()", x, x.mark(), 1, 0);
        x.look(1, 1);
        x.build(0, 1, 5);
        x.steal(0, 1, 3, 0, 4);
        x.fall(7);
        x.thaw(3);
        x.night();
        x.ice(0, 0);
        Check.yard(x, "wide 4 high 2;school c hands 5;no wall above 0;snow 1 1 deep 3;");
        x.night();
        x.build(1, 1, 3);
        Check.due("all is other", told(x).equals(then), false);
        Check.due("back()", x, x.back(), 0, 0);
        Check.due("all is as then", told(x).equals(then), true);
    }

    private static void ordersAreTakenBack() {
        SnowForts x = Check.forts(YARD);
        x.mark();
        Check.orders(x, "fall 1;loop 2;thaw 1;end;");
        x.mark();
        Check.orders(x, "night;");
        Check.due("the new ones", x.run(0), 1);
        x.back();
        Check.due("the old ones", x.run(0), 4);
        Check.due("day", x.many(3), 0);
        x.back();
        Check.due("none", x, x.run(0), -1, 8);
    }

    /** All that a step can say is there again: numbers, cells, signs, how far a loop goes. */
    private static void partsOfOrdersAreTakenBack() {
        String orders = "storm 1 to 9;build 0 0 by 3;steal 0 1 from 3 0 by 4;ice 1 1;loop 2;when day<1;night;end;end;"
            + "when wall 0 0>2;fall 2;end;";
        SnowForts x = Check.forts(YARD);
        Check.due("taken", Check.orders(x, orders), 9);
        x.mark();
        int steps = x.run(77);
        String due = told(x);
        x.back();
        x.mark();
        Check.orders(x, "loop 9;when way=3;when wall 2 1<3;end;end;end;build 2 0 by 1;steal 2 0 from 0 0 by 1;ice 2 0;"
            + "storm 2 to 2;storm 3 to 3;fall 9;thaw 9;night;night;night;");
        Check.due("others", x.status(), 0);
        x.run(1);
        x.back();
        Check.due("steps", x.run(77), steps);
        Check.due("all is as by the first run", told(x).equals(due), true);
    }

    private static void anotherYardIsTakenBack() {
        SnowForts x = Check.forts(YARD);
        Check.orders(x, "ice 3 1;build 2 1 by 3;");
        x.mark();
        String then = told(x);
        Check.yard(x, "wide 2 high 1;");
        x.mark();
        Check.yard(x, "wide 6 high 6;school z hands 1;snow 5 5 deep 5;");
        Check.due("back()", x.back(), 1);
        Check.due("wide", x.many(0), 2);
        Check.due("snow", x.many(5), 0);
        Check.due("no ORDERS", x, x.run(0), -1, 8);
        Check.due("back()", x.back(), 0);
        Check.due("all is as then", told(x).equals(then), true);
        Check.due("its ORDERS", x, x.run(0), 2, 0);
    }

    /** Trays, the tape, the fraction and what was told latest are neither yard nor orders. */
    private static void whatIsNoPartStays() {
        SnowForts x = Check.forts(YARD);
        x.mark();
        Check.row(x, 0, 4, 4, 4, 4);
        x.stands(1, 1, 0);
        Check.orders(x, "fall 1;");
        x.run(0);
        x.way();
        x.feed(0, 0, 0, 0, 0);
        x.back();
        Check.due("tray", x.read(0, 3), 4);
        Check.due("bottom()", x.bottom(), 4);
        Check.due("ran(0)", x.ran(0), 0);
        Check.due("wayAt(0, 0)", x.wayAt(0, 0), 0);
        Check.due("tape", x.feed(0, 0, 0, 0, 0), 40);
        Check.due("fault(0)", x.fault(0), 0);
    }
}
