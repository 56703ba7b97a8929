/** The refused calls of each promise: the STATUS of each, and that nothing but STATUS has changed behind it. */
public final class RefusedEdgesTest {
    private static final int LEAST = Integer.MIN_VALUE;
    private static final int GREATEST = Integer.MAX_VALUE;
    /** Numbers below and above all bounds, some that would be small if they were cut. */
    private static final int[] WILD = {LEAST, -65536, -256, -1, 1000, 65536, GREATEST};

    public static void main(String[] args) {
        twinsHaveAll();
        trays();
        pours();
        texts();
        whats();
        cells();
        builds();
        ices();
        steals();
        nights();
        halvesAndSchools();
        looks();
        works();
        games();
        odds();
        runs();
        marks();
        Check.end("RefusedEdgesTest");
    }

    /** The twins have something of all, so that a change would be told. */
    private static void twinsHaveAll() {
        SnowForts x = Twins.full();
        Check.due("hands are left", x.school(0, 0) - x.school(0, 1) >= 3, true);
        Check.due("hands are used", x.school(0, 1) > 0 && x.school(1, 1) > 0, true);
        Check.due("breaches of both", x.school(0, 2) > 0 && x.school(1, 2) > 0, true);
        Check.due("ice", x.cell(1, 1, 5), 1);
        Check.due("ice that is known", x.hiding(1), 1);
        Check.due("works", x.worked(1) > 0, true);
        Check.due("a run", x.ran(1) > 0, true);
        Check.due("a way", x, x.wayAt(1, 0), 1, 0);
        Check.due("a fraction", x.bottom() > 1, true);
        Check.due("a day", x.many(3) > 0, true);
        Check.due("it ran off, melted or fell", x.many(9) > 0, true);
        Check.due("a mark", x, x.back(), 0, 0);
    }

    private static void trays() {
        for (int wild : WILD) {
            Twins.denied("tray(" + wild + ", 0, 1)", 1, x -> x.tray(wild, 0, 1));
            Twins.denied("tray(0, " + wild + ", 1)", 1, x -> x.tray(0, wild, 1));
            Twins.denied("tray(0, 0, " + wild + ")", wild < 0 ? 6 : 5, x -> x.tray(0, 0, wild));
            Twins.denied("write(" + wild + ", 0, 1)", 1, x -> x.write(wild, 0, 1));
            Twins.denied("write(0, " + wild + ", 1)", 4, x -> x.write(0, wild, 1));
            Twins.refused("read(" + wild + ", 0)", 1, x -> x.read(wild, 0));
            Twins.refused("read(0, " + wild + ")", 4, x -> x.read(0, wild));
        }
        Twins.denied("tray(4, 0, 1)", 1, x -> x.tray(4, 0, 1));
        Twins.denied("tray(3, 4, 1)", 1, x -> x.tray(3, 4, 1));
        Twins.denied("tray(0, 0, 61)", 5, x -> x.tray(0, 0, 61));
        Twins.denied("write(4, 0, 1)", 1, x -> x.write(4, 0, 1));
        Twins.denied("write(3, 0, 1)", 3, x -> x.write(3, 0, 1));
        Twins.denied("write(0, 5, 1)", 4, x -> x.write(0, 5, 1));
        Twins.denied("write(2, 0, 1)", 4, x -> x.write(2, 0, 1));
        Twins.refused("read(4, 0)", 1, x -> x.read(4, 0));
        Twins.refused("read(3, 0)", 3, x -> x.read(3, 0));
        Twins.refused("read(0, 5)", 4, x -> x.read(0, 5));
    }

    private static void pours() {
        for (int wild : WILD) {
            Twins.denied("pour from " + wild, 1, x -> x.pour(wild, 0, 0, 0, 1));
            Twins.denied("pour to " + wild, 1, x -> x.pour(0, 0, wild, 0, 1));
            Twins.denied("pour from place " + wild, 4, x -> x.pour(0, wild, 0, 0, 1));
            Twins.denied("pour to place " + wild, 4, x -> x.pour(0, 0, 0, wild, 1));
            Twins.denied("pour of " + wild, wild < 0 ? 6 : 4, x -> x.pour(0, 0, 0, 1, wild));
        }
        Twins.denied("pour from a missing one", 3, x -> x.pour(3, 0, 0, 0, 1));
        Twins.denied("pour to a missing one", 3, x -> x.pour(0, 0, 3, 0, 1));
        Twins.denied("pour to another sort", 11, x -> x.pour(0, 0, 1, 0, 1));
        Twins.denied("pour of no numbers to another sort", 11, x -> x.pour(0, 0, 2, 0, 0));
        Twins.denied("pour above the end", 4, x -> x.pour(0, 0, 0, 1, 5));
        Twins.denied("pour from above the end", 4, x -> x.pour(0, 1, 0, 0, 5));
        Twins.denied("pour of no numbers above the end", 4, x -> x.pour(0, 6, 0, 0, 0));
    }

    private static void texts() {
        for (int wild : WILD) {
            Twins.refused("yard(" + wild + ")", 5, x -> x.yard(wild));
            Twins.refused("orders(" + wild + ")", 5, x -> x.orders(wild));
        }
        // 31 bytes are fed as 40
        Twins.refused("yard(41)", 5, x -> x.yard(41));
        Twins.refused("orders(41)", 5, x -> x.orders(41));
    }

    /** Calls that ask for a what, a kind, a place of the latest way. */
    private static void whats() {
        for (int wild : WILD) {
            Twins.refused("many(" + wild + ")", 5, x -> x.many(wild));
            Twins.refused("cell(0, 0, " + wild + ")", 5, x -> x.cell(0, 0, wild));
            Twins.refused("school(0, " + wild + ")", 5, x -> x.school(0, wild));
            Twins.refused("school(" + wild + ", 0)", 2, x -> x.school(wild, 0));
            Twins.refused("article(" + wild + ")", 5, x -> x.article(wild));
            Twins.refused("breach(" + wild + ")", 5, x -> x.breach(wild));
            Twins.refused("wayAt(0, " + wild + ")", 5, x -> x.wayAt(0, wild));
            Twins.refused("wayAt(" + wild + ", 0)", 8, x -> x.wayAt(wild, 0));
            Twins.refused("worked(" + wild + ")", 5, x -> x.worked(wild));
            Twins.refused("ran(" + wild + ")", 5, x -> x.ran(wild));
        }
        Twins.refused("many(10)", 5, x -> x.many(10));
        Twins.refused("cell(0, 0, 6)", 5, x -> x.cell(0, 0, 6));
        Twins.refused("school(0, 5)", 5, x -> x.school(0, 5));
        Twins.refused("school(2, 0)", 2, x -> x.school(2, 0));
        Twins.refused("article(4)", 5, x -> x.article(4));
        Twins.refused("breach(5)", 5, x -> x.breach(5));
        Twins.refused("wayAt(0, 2)", 5, x -> x.wayAt(0, 2));
        Twins.refused("worked(3)", 5, x -> x.worked(3));
        Twins.refused("ran(4)", 5, x -> x.ran(4));
    }

    /** Calls that name a cell which is none, by either number; and the first of several reasons. */
    private static void cells() {
        for (int wild : new int[] {LEAST, -1, 2, 6, 256, GREATEST}) {
            Twins.refused("cell(" + wild + ", 0, 9)", 2, x -> x.cell(wild, 0, 9));
            Twins.refused("cell(0, " + wild + ", 9)", 2, x -> x.cell(0, wild, 9));
            Twins.refused("build(" + wild + ", 0, 0)", 2, x -> x.build(wild, 0, 0));
            Twins.refused("build(0, " + wild + ", 0)", 2, x -> x.build(0, wild, 0));
            Twins.denied("ice(" + wild + ", 0)", 2, x -> x.ice(wild, 0));
            Twins.denied("ice(0, " + wild + ")", 2, x -> x.ice(0, wild));
            Twins.refused("steal(" + wild + ", 0, ..)", 2, x -> x.steal(wild, 0, 1, 0, 0));
            Twins.refused("steal(0, " + wild + ", ..)", 2, x -> x.steal(0, wild, 1, 0, 0));
            Twins.refused("steal(.., " + wild + ", 0, ..)", 2, x -> x.steal(0, 0, wild, 0, 0));
            Twins.refused("steal(.., 1, " + wild + ", ..)", 2, x -> x.steal(0, 0, 1, wild, 0));
            Twins.refused("room(" + wild + ", 0)", 2, x -> x.room(wild, 0));
            Twins.refused("room(0, " + wild + ")", 2, x -> x.room(0, wild));
            Twins.refused("look(" + wild + ", 0)", 2, x -> x.look(wild, 0));
            Twins.refused("look(0, " + wild + ")", 2, x -> x.look(0, wild));
        }
    }

    private static void builds() {
        for (int wild : new int[] {LEAST, -1, 0, 41, 257, GREATEST}) {
            Twins.refused("build(0, 0, " + wild + ")", 5, x -> x.build(0, 0, wild));
            Twins.refused("build(0, 1, " + wild + "), without snow", 5, x -> x.build(0, 1, wild));
            Twins.refused("steal of " + wild, 5, x -> x.steal(0, 0, 1, 0, wild));
            Twins.refused("steal within a half of " + wild, 5, x -> x.steal(0, 0, 0, 1, wild));
        }
        for (int wild : new int[] {LEAST, -1, 41, 256, GREATEST}) {
            Twins.refused("fall(" + wild + ")", 5, x -> x.fall(wild));
            Twins.refused("thaw(" + wild + ")", 5, x -> x.thaw(wild));
        }
        Twins.refused("build without snow", 9, RefusedEdgesTest::nothingIsLeft, x -> x.build(0, 0, 1));
        Twins.refused("build without hands", 9, x -> x.build(0, 0, 40), x -> x.build(0, 0, 1));
        Twins.refused("build above 99", 9, RefusedEdgesTest::wallOf99, x -> x.build(0, 0, 1));
    }

    private static void nothingIsLeft(SnowForts x) {
        for (int i = 0; i < 4; i++) {
            x.thaw(40);
        }
        Check.due("no snow, no walls", x.many(5) + x.many(6), 0);
    }

    /** A wall of 99 with snow, and hands that are left. */
    private static void wallOf99(SnowForts x) {
        for (int i = 0; i < 12; i++) {
            x.fall(12);
            x.build(0, 0, 12);
            x.night();
        }
        x.fall(1);
        Check.due("a wall of 99", x.cell(0, 0, 1), 99);
        Check.due("snow on it", x.cell(0, 0, 0) > 0, true);
    }

    private static void ices() {
        Twins.denied("ice without a wall", 9, RefusedEdgesTest::nothingIsLeft, x -> x.ice(0, 0));
        Twins.denied("ice of ice", 9, x -> x.ice(1, 1));
        Twins.denied("ice by one hand", 9, x -> x.build(0, 0, x.school(0, 0) - x.school(0, 1) - 1), x -> x.ice(0, 1));
        Twins.denied("ice without hands", 9, x -> x.build(0, 0, 40), x -> x.ice(0, 1));
    }

    private static void steals() {
        Twins.refused("steal within one half", 9, x -> x.steal(0, 1, 0, 0, 1));
        Twins.refused("steal of a cell from itself", 9, x -> x.steal(0, 0, 0, 0, 1));
        Twins.refused("steal without hands", 9, x -> x.build(0, 0, 40), x -> x.steal(0, 0, 1, 0, 1));
        Twins.refused("steal of no snow", 9, RefusedEdgesTest::nothingIsLeft, x -> x.steal(0, 0, 1, 0, 1));
    }

    private static void toDay999(SnowForts x) {
        // a text with a FAULT empties the tape
        x.yard(0);
        Check.orders(x, "loop 99;night;night;night;end;");
        for (int i = 0; i < 4; i++) {
            x.run(0);
        }
        x.fall(9);
        x.build(0, 0, 3);
        x.build(1, 0, 3);
        Check.due("the last day", x.many(3), 999);
    }

    private static void nights() {
        Twins.refused("night at day 999", 7, RefusedEdgesTest::toDay999, x -> x.night());
    }

    private static void halvesAndSchools() {
        for (int wild : new int[] {LEAST, -1, 2, 256, GREATEST}) {
            Twins.refused("most(" + wild + ")", 2, x -> x.most(wild));
            Twins.refused("lasting(" + wild + ", 99, 99)", 2, x -> x.lasting(wild, 99, 99));
            Twins.refused("lowest(" + wild + ")", 5, x -> x.lowest(wild));
            Twins.refused("highest(" + wild + ")", 5, x -> x.highest(wild));
            Twins.refused("level(" + wild + ")", 5, x -> x.level(wild));
            Twins.refused("hiding(" + wild + ")", 5, x -> x.hiding(wild));
            Twins.refused("sure(" + wild + ", 1)", 5, x -> x.sure(wild, 1));
        }
        for (int wild : new int[] {LEAST, -1, 31, 256, GREATEST}) {
            Twins.refused("lasting(0, " + wild + ", 0)", 5, x -> x.lasting(0, wild, 0));
        }
        for (int wild : new int[] {LEAST, -1, 41, 256, GREATEST}) {
            Twins.refused("lasting(0, 0, " + wild + ")", 5, x -> x.lasting(0, 0, wild));
        }
        Twins.refused("level of a wall too high", 9, RefusedEdgesTest::wallOf99, x -> x.level(0));
    }

    private static void looks() {
        for (int wild : new int[] {LEAST, -1, 0, 19, 257, GREATEST}) {
            Twins.refused("sure(0, " + wild + ")", 5, x -> x.sure(0, wild));
        }
        Twins.refused("sure of more than hiding", 9, x -> x.sure(0, 3));
        Twins.refused("sure of 18", 9, x -> x.sure(1, 18));
    }

    private static void works() {
        for (int wild : WILD) {
            Twins.refused("works(" + wild + ", ..)", 1, x -> x.works(wild, 0, 2));
            Twins.refused("works(.., " + wild + ", ..)", 1, x -> x.works(0, wild, 2));
            Twins.refused("works(.., " + wild + ")", wild < 0 ? 5 : 4, x -> x.works(0, 0, wild));
        }
        Twins.refused("works(4, 0, 2)", 1, x -> x.works(4, 0, 2));
        Twins.refused("works of a missing one", 3, x -> x.works(3, 0, 2));
        Twins.refused("works by a missing one", 3, x -> x.works(0, 3, 2));
        Twins.refused("works of too few", 4, x -> x.works(0, 0, 6));
        Twins.refused("works by too few", 4, x -> x.works(0, 1, 4));
        Twins.refused("works of one morning", 5, x -> x.works(0, 0, 1));
        Twins.refused("works of a height below 0", 5, x -> x.works(1, 0, 2));
        Twins.refused("works by a thaw below 0", 5, x -> x.works(0, 1, 2));
        Twins.refused("works of a height of 100", 5, x -> x.write(0, 1, 100), x -> x.works(0, 0, 2));
        Twins.refused("works by a thaw of 21", 5, x -> x.write(0, 0, 21), x -> x.works(0, 0, 2));
    }

    private static void games() {
        for (int wild : new int[] {LEAST, -1, 13, 256, GREATEST}) {
            Twins.refused("wins(" + wild + ", 0, 1, 0)", 5, x -> x.wins(wild, 0, 1, 0));
            Twins.refused("wins(0, " + wild + ", 1, 0)", 5, x -> x.wins(0, wild, 1, 0));
            Twins.refused("turns(" + wild + ", 0, 1, 0)", 5, x -> x.turns(wild, 0, 1, 0));
            Twins.refused("turns(0, " + wild + ", 1, 0)", 5, x -> x.turns(0, wild, 1, 0));
        }
        for (int wild : new int[] {LEAST, -1, 5, 256, GREATEST}) {
            Twins.refused("wins(0, 0, 1, " + wild + ")", 5, x -> x.wins(0, 0, 1, wild));
            Twins.refused("turns(0, 0, 1, " + wild + ")", 5, x -> x.turns(0, 0, 1, wild));
        }
        for (int wild : new int[] {LEAST, -1, 0, 5, 257, GREATEST}) {
            Twins.refused("wins(0, 0, " + wild + ", 0)", 5, x -> x.wins(0, 0, wild, 0));
            Twins.refused("turns(0, 0, " + wild + ", 0)", 5, x -> x.turns(0, 0, wild, 0));
        }
    }

    private static void odds() {
        for (int wild : new int[] {LEAST, -1, 4, 256, GREATEST}) {
            Twins.denied("stands(1, 1, " + wild + ")", 1, x -> x.stands(1, 1, wild));
            Twins.denied("mean(1, 1, " + wild + ")", 1, x -> x.mean(1, 1, wild));
        }
        for (int wild : new int[] {LEAST, -1, 0, 100, 257, GREATEST}) {
            Twins.denied("stands(" + wild + ", 1, 0)", 5, x -> x.stands(wild, 1, 0));
            Twins.denied("mean(" + wild + ", 1, 0)", 5, x -> x.mean(wild, 1, 0));
        }
        for (int wild : new int[] {LEAST, -1, 0, 9, 257, GREATEST}) {
            Twins.denied("stands(1, " + wild + ", 0)", 5, x -> x.stands(1, wild, 0));
            Twins.denied("mean(1, " + wild + ", 0)", 5, x -> x.mean(1, wild, 0));
        }
        Twins.denied("stands by a missing one", 3, x -> x.stands(1, 1, 3));
        Twins.denied("mean by a missing one", 3, x -> x.mean(1, 1, 3));
        Twins.denied("stands by two numbers", 4, x -> x.stands(1, 1, 1));
        Twins.denied("mean by two numbers", 4, x -> x.mean(1, 1, 1));
        Twins.denied("stands by no sixteenths", 5, x -> x.write(0, 1, 5), x -> x.stands(1, 1, 0));
        Twins.denied("mean by no sixteenths", 5, x -> x.write(0, 1, 3), x -> x.mean(1, 1, 0));
    }

    private static void runs() {
        for (int wild : new int[] {LEAST, -1, 10000, 65536, GREATEST}) {
            Twins.refused("run(" + wild + ")", 5, x -> x.run(wild));
            Twins.denied("peaces(" + wild + ", 1)", 5, x -> x.peaces(wild, 1));
        }
        for (int wild : new int[] {LEAST, -1, 0, 21, 257, GREATEST}) {
            Twins.denied("peaces(0, " + wild + ")", 5, x -> x.peaces(0, wild));
        }
        Twins.denied("peaces(9981, 20)", 5, x -> x.peaces(9981, 20));
        Twins.denied("peaces(9999, 2)", 5, x -> x.peaces(9999, 2));
        Twins.refused("run without orders", 8, RefusedEdgesTest::anotherYard, x -> x.run(0));
        Twins.denied("peaces without orders", 8, RefusedEdgesTest::anotherYard, x -> x.peaces(0, 1));
    }

    private static void anotherYard(SnowForts x) {
        x.yard(0);
        Check.due("another yard", Check.yard(x, "wide 2 high 1;"), 2);
    }

    private static void marks() {
        Twins.refused("a fourth mark", 7, RefusedEdgesTest::threeMarks, x -> x.mark());
        Twins.refused("back without a mark", 8, x -> x.back(), x -> x.back());
    }

    private static void threeMarks(SnowForts x) {
        Check.due("a second one", x.mark(), 2);
        x.fall(1);
        Check.due("a third one", x.mark(), 3);
        x.fall(1);
    }
}
