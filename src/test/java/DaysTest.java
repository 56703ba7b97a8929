/** Promises 17 to 23: days on which it falls and thaws, and what schools do; breaches. */
public final class DaysTest {
    public static void main(String[] args) {
        snowFalls();
        itThaws();
        iceThaws();
        schoolsBuild();
        buildRefused();
        wallBreaches();
        buildBreaches();
        schoolsIce();
        iceBreaches();
        schoolsSteal();
        stealRefused();
        stealBreaches();
        firstBreach();
        nightComes();
        Check.end("DaysTest");
    }

    private static void snowFalls() {
        SnowForts x = Check.forts("wide 2 high 1;snow 0 0 deep 60;wall 0 0 tall 99;");
        Check.due("fall(0)", x, x.fall(0), 0, 0);
        Check.due("fall(39)", x, x.fall(39), 0, 0);
        Check.due("fall(40)", x, x.fall(40), 40, 0);
        Check.due("fall(21)", x, x.fall(21), 22, 0);
        Check.due("snow", x.many(5), 198);
        Check.due("ran off", x.many(8), 62);
        Check.due("fell", x.many(9), 200);
        Check.due("fall(-1)", x, x.fall(-1), -1, 5);
        Check.due("fall(41)", x, x.fall(41), -1, 5);
        Check.due("fell", x.many(9), 200);
    }

    private static void itThaws() {
        SnowForts x = Check.forts("wide 2 high 2;snow 0 0 deep 5;wall 0 0 tall 5;sun 0 0 by 3;wall 1 0 tall 1;sun 1 1 by 9;");
        Check.due("thaw(0)", x, x.thaw(0), 3, 0);
        Check.due("snow first", x.cell(0, 0, 0), 2);
        Check.due("thaw(1)", x, x.thaw(1), 5, 0);
        Check.due("then the wall", x.cell(0, 0, 1), 3);
        Check.due("then the wall", x.cell(1, 0, 1), 0);
        Check.due("thaw(40)", x, x.thaw(40), 3, 0);
        Check.due("melted", x.many(7), 11);
        Check.due("nothing is left", x, x.thaw(40), 0, 0);
        Check.due("thaw(41)", x, x.thaw(41), -1, 5);
        Check.due("thaw(-1)", x, x.thaw(-1), -1, 5);
    }

    private static void iceThaws() {
        SnowForts x = Check.forts("wide 2 high 1;school a hands 9;snow 0 0 deep 5;wall 0 0 tall 5;wall 1 0 tall 5;");
        x.ice(0, 0);
        Check.due("thaw(8) on ice", x, x.thaw(8), 10, 0);
        Check.due("its snow melts", x.cell(0, 0, 0), 0);
        Check.due("its wall stands", x.cell(0, 0, 1), 5);
        Check.due("iced no more", x.cell(0, 0, 5), 0);
        Check.due("thaw(1) then", x, x.thaw(1), 1, 0);
        x.ice(0, 0);
        Check.due("iced", x.cell(0, 0, 5), 1);
        Check.due("thaw(0)", x, x.thaw(0), 0, 0);
        Check.due("iced no more by a thaw of nothing", x.cell(0, 0, 5), 0);
    }

    private static void schoolsBuild() {
        SnowForts x = Check.forts("wide 4 high 1;school a hands 6;school b hands 40;snow 0 0 deep 9;snow 1 0 deep 2;"
            + "snow 3 0 deep 40;wall 3 0 tall 97;snow 2 0 deep 40;");
        Check.due("build(1, 0, 40)", x, x.build(1, 0, 40), 2, 0);
        Check.due("build(0, 0, 3)", x, x.build(0, 0, 3), 3, 0);
        Check.due("by the hands that are left", x, x.build(0, 0, 3), 1, 0);
        Check.due("snow", x.cell(0, 0, 0), 5);
        Check.due("wall", x.cell(0, 0, 1), 4);
        Check.due("used", x.school(0, 1), 6);
        Check.due("no hands", x, x.build(0, 0, 1), -1, 9);
        Check.due("to 99", x, x.build(3, 0, 40), 2, 0);
        Check.due("the wall is 99", x, x.build(3, 0, 40), -1, 9);
        Check.due("no snow", x, x.build(1, 0, 1), -1, 9);
        Check.due("no articles", x.many(4), 0);
    }

    private static void buildRefused() {
        SnowForts x = Check.forts("wide 2 high 1;school a hands 6;snow 0 0 deep 9;snow 1 0 deep 9;");
        Check.due("build(2, 0, 0)", x, x.build(2, 0, 0), -1, 2);
        Check.due("build(0, 1, 0)", x, x.build(0, 1, 0), -1, 2);
        Check.due("build(-1, 0, 0)", x, x.build(-1, 0, 0), -1, 2);
        Check.due("a half without a school", x, x.build(1, 0, 0), -1, 2);
        Check.due("build(0, 0, 0)", x, x.build(0, 0, 0), -1, 5);
        Check.due("build(0, 0, 41)", x, x.build(0, 0, 41), -1, 5);
        Check.due("nothing was built", x.many(6), 0);
    }

    private static void wallBreaches() {
        SnowForts x = Check.forts("wide 2 high 1;school a hands 40;school b hands 40;no wall above 2;wall 1 0 tall 3;"
            + "snow 0 0 deep 40;snow 1 0 deep 40;");
        Check.due("to the other's and 2", x, x.build(0, 0, 5), 5, 0);
        Check.due("no breach", x.many(4), 0);
        x.build(1, 0, 1);
        Check.due("by the last night's wall, 0", x.many(4), 1);
        x.build(0, 0, 2);
        Check.due("each unit", x.many(4), 3);
        x.night();
        Check.due("room by the last night's wall, 4", x.room(0, 0), 0);
        Check.due("room by the last night's wall, 7", x.room(1, 0), 5);
    }

    private static void buildBreaches() {
        SnowForts x = Check.forts("wide 2 high 1;school a hands 9;no build behind 3;wall 0 0 tall 1;snow 0 0 deep 40;");
        x.ice(0, 0);
        x.build(0, 0, 3);
        Check.due("ice uses hands too", x.many(4), 2);
        x.night();
        x.build(0, 0, 3);
        Check.due("three hands are free each day", x.many(4), 2);
        x.build(0, 0, 9);
        Check.due("each unit behind", x.many(4), 8);
        Check.due("the school's", x.school(0, 2), 8);
    }

    private static void schoolsIce() {
        SnowForts x = Check.forts("wide 4 high 1;school a hands 5;wall 0 0 tall 1;wall 1 0 tall 1;wall 2 0 tall 1;");
        Check.due("no wall", x, Check.forts("wide 2 high 1;school a hands 5;snow 0 0 deep 9;").ice(0, 0), false, 0);
        Check.due("ice(0, 0)", x, x.ice(0, 0), true, 0);
        Check.due("used", x.school(0, 1), 2);
        Check.due("it is iced", x, x.ice(0, 0), false, 9);
        Check.due("ice(1, 0)", x, x.ice(1, 0), true, 0);
        Check.due("iced cells", x.school(0, 3), 2);
        x.thaw(0);
        Check.due("one hand is too few", x, x.ice(0, 0), false, 9);
        Check.due("a half without a school", x, x.ice(2, 0), false, 2);
        Check.due("no such cell", x, x.ice(0, 1), false, 2);
        Check.due("nothing was used", x.school(0, 1), 4);
        SnowForts two = Check.forts("wide 2 high 1;school a hands 2;wall 0 0 tall 1;");
        Check.due("two hands are enough", two, two.ice(0, 0), true, 0);
        SnowForts none = Check.forts("wide 2 high 1;school a hands 2;snow 0 0 deep 1;");
        Check.due("no wall", none, none.ice(0, 0), false, 9);
        none.build(0, 0, 1);
        Check.due("one hand", none, none.ice(0, 0), false, 9);
    }

    private static void iceBreaches() {
        SnowForts x = Check.forts("wide 2 high 3;school a hands 40;school b hands 40;no ice above 1;wall 0 0 tall 1;"
            + "wall 0 1 tall 1;wall 0 2 tall 1;wall 1 0 tall 1;");
        x.ice(0, 0);
        x.ice(1, 0);
        Check.due("one of each school", x.many(4), 0);
        x.ice(0, 1);
        Check.due("a second one", x.many(4), 1);
        x.thaw(0);
        x.ice(0, 2);
        Check.due("those that are iced no more do not count", x.many(4), 1);
        x.ice(0, 1);
        Check.due("a second one again", x.many(4), 2);
        Check.due("article 3", x.breach(1), 3);
        Check.due("its cell", x.breach(4), 1);
    }

    private static void schoolsSteal() {
        SnowForts x = Check.forts("wide 4 high 1;school a hands 6;snow 3 0 deep 9;snow 2 0 deep 40;snow 0 0 deep 97;");
        Check.due("steal(1, 0, 3, 0, 5)", x, x.steal(1, 0, 3, 0, 5), 5, 0);
        Check.due("two units a hand", x.school(0, 1), 3);
        Check.due("it is gone there", x.cell(3, 0, 0), 4);
        Check.due("it is here", x.cell(1, 0, 0), 5);
        Check.due("from a half without a school", x, x.steal(1, 0, 3, 0, 40), 4, 0);
        Check.due("no more than there is", x.school(0, 1), 5);
        Check.due("by one hand, above 99", x, x.steal(0, 0, 2, 0, 40), 2, 0);
        Check.due("to 99", x.cell(0, 0, 0), 99);
        Check.due("no hands", x, x.steal(0, 0, 2, 0, 40), -1, 9);
        x.night();
        Check.due("what is above 99 runs off", x, x.steal(0, 0, 2, 0, 7), 7, 0);
        Check.due("ran off", x.many(8), 7);
        Check.due("snow", x.many(5), 99 + 9 + 31);
        Check.due("nothing there", x, x.steal(0, 0, 3, 0, 1), -1, 9);
        Check.due("no articles", x.many(4), 0);
    }

    private static void stealRefused() {
        SnowForts x = Check.forts("wide 4 high 1;school a hands 6;snow 3 0 deep 9;snow 1 0 deep 9;");
        Check.due("no such cell", x, x.steal(0, 1, 3, 0, 0), -1, 2);
        Check.due("no such cell from", x, x.steal(0, 0, 4, 0, 0), -1, 2);
        Check.due("a half without a school", x, x.steal(2, 0, 1, 0, 0), -1, 2);
        Check.due("steal .. 0", x, x.steal(0, 0, 1, 0, 0), -1, 5);
        Check.due("steal .. 41", x, x.steal(0, 0, 3, 0, 41), -1, 5);
        Check.due("both of one half", x, x.steal(0, 0, 1, 0, 1), -1, 9);
        Check.due("the very cell", x, x.steal(1, 0, 1, 0, 1), -1, 9);
        Check.due("nothing was stolen", x.school(0, 1), 0);
    }

    private static void stealBreaches() {
        SnowForts x = Check.forts("wide 2 high 2;school a hands 40;school b hands 40;no steal;no build behind 0;"
            + "snow 0 1 deep 9;");
        x.steal(1, 0, 0, 1, 5);
        Check.due("each hand", x.many(4), 3);
        int[] told = {1, 2, 0, 0, 1};
        for (int what = 0; what < told.length; what++) {
            Check.due("breach(" + what + ") of a steal", x, x.breach(what), told[what], 0);
        }
        Check.due("school(1, 2)", x.school(1, 2), 3);
        Check.due("school(0, 2)", x.school(0, 2), 0);
    }

    private static void firstBreach() {
        SnowForts x = Check.forts("wide 4 high 2;school a hands 9;school b hands 9;no build behind 1;no wall above 0;"
            + "no steal;snow 2 1 deep 9;snow 0 0 deep 9;");
        x.night();
        x.night();
        Check.due("breach(0) ahead of any", x, x.breach(0), -1, 8);
        Check.due("breach(5)", x, x.breach(5), -1, 5);
        Check.due("breach(-1)", x, x.breach(-1), -1, 5);
        x.build(2, 1, 2);
        Check.due("the second unit is against two articles", x.many(4), 3);
        x.night();
        x.steal(1, 1, 2, 1, 1);
        int[] told = {1, 0, 2, 2, 1};
        for (int what = 0; what < told.length; what++) {
            Check.due("breach(" + what + ")", x, x.breach(what), told[what], 0);
        }
        // a unit against both at once: the least article is the first one
        x = Check.forts("wide 2 high 1;school a hands 9;no build behind 0;no wall above 0;snow 0 0 deep 1;");
        x.build(0, 0, 1);
        Check.due("both", x.many(4), 2);
        Check.due("the least", x.breach(1), 0);
    }

    private static void nightComes() {
        SnowForts x = Check.forts("wide 2 high 1;school a hands 9;school b hands 9;snow 0 0 deep 40;snow 1 0 deep 40;");
        x.build(0, 0, 5);
        x.build(1, 0, 4);
        Check.due("last night's wall by day", x.cell(0, 0, 3), 0);
        Check.due("night()", x, x.night(), 1, 0);
        Check.due("last night's wall", x.cell(0, 0, 3), 5);
        Check.due("last night's wall", x.cell(1, 0, 3), 4);
        Check.due("hands", x.school(0, 1) + x.school(1, 1), 0);
        Check.orders(x, "loop 99;night;night;night;end;");
        x.run(0);
        x.run(0);
        x.run(0);
        Check.due("the day behind three times 297 nights", x.many(3), 1 + 3 * 297);
        Check.orders(x, "loop 99;night;night;end;");
        x.run(0);
        Check.due("nights that can't be", x.ran(0), 198 - 107);
        Check.due("day 999", x.many(3), 999);
        x.build(0, 0, 1);
        Check.due("no night then", x, x.night(), -1, 7);
        Check.due("day 999", x.many(3), 999);
        Check.due("its hands stay used", x.school(0, 1), 1);
        Check.due("its walls stay as they were", x.cell(0, 0, 3), 5);
        x.run(0);
        Check.due("no night can be", x.ran(0), 198);
    }
}
