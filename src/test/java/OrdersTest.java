/** Promises 11, 12, 44 to 46: orders as a text, runs by a seed. */
public final class OrdersTest {
    private static final String YARD = "wide 4 high 2;school a hands 20;school b hands 40;no steal;no build behind 3;"
        + "snow 0 0 deep 9;snow 3 1 deep 9;wall 1 1 tall 2;";

    public static void main(String[] args) {
        ordersAreTaken();
        ordersNeedTheirBytes();
        faultsOfWords();
        faultsOfNumbers();
        faultsOfCells();
        faultsOfSteps();
        runsAreRefused();
        stepsAreDone();
        stormsAreDrawn();
        whatCannotBeIsMissed();
        testsCompare();
        loopsGoRound();
        threeHundredSteps();
        peacesAreCounted();
        Check.end("OrdersTest");
    }

    private static void ordersAreTaken() {
        SnowForts x = Check.forts(YARD);
        Check.due("no orders at all", x, Check.orders(x, " \n "), 0, 0);
        Check.due("they are there", x, x.run(5), 0, 0);
        Check.due("all kinds", x, Check.orders(x, "fall 40;thaw 0;storm 0 to 40;build 0 0 by 40;ice 3 1;"
            + "steal 0 1 from 2 1 by 1;night;when day>999;when wall 0 0<99;when way=0;when breach;end;end;end;"
            + "loop 1;loop 99;stop;end;end;"), -1, 10);
        Check.due("the fourth when", x.fault(0), 7);
        Check.due("all kinds", x, Check.orders(x, "fall 40;thaw 0;storm 0 to 40;build 0 0 by 40;ice 3 1;"
            + "steal 0 1 from 2 1 by 1;night;when day>999;when wall 0 0<99;when way=0;end;end;end;"
            + "loop 1;loop 99;when breach;stop;end;end;end;"), 14, 0);
        Check.due("fault(0)", x.fault(0), 0);
        Check.due("fault(1)", x.fault(1), -1);
        // a fault keeps the old ones
        Check.orders(x, "fall 1;fall 2;");
        Check.due("a FAULT", x, Check.orders(x, "fall 1;fall"), -1, 10);
        Check.due("the old ones stay", x.run(0), 2);
        Check.due("without schools", Check.orders(new SnowForts(), "fall 1;night;"), 2);
    }

    private static void ordersNeedTheirBytes() {
        SnowForts x = new SnowForts();
        StringBuilder text = new StringBuilder("night;");
        while (text.length() < 301) {
            text.append(' ');
        }
        int n = Check.put(x, text.toString());
        Check.due("orders(301)", x, x.orders(n), -1, 5);
        Check.due("orders(-1)", x, x.orders(-1), -1, 5);
        Check.due("orders(321)", x, x.orders(321), -1, 5);
        Check.due("no fault by these", x.fault(0), -1);
        Check.due("orders(300)", x, x.orders(300), 1, 0);
        Check.due("the tape is empty", x, x.orders(1), -1, 5);
        Check.put(x, "end;");
        Check.due("a FAULT", x, x.orders(4), -1, 10);
        Check.due("the tape is empty", x, x.orders(1), -1, 5);
        Check.due("fault stays", x.fault(0), 2);
    }

    private static void fault(String why, String text, int kind, int place) {
        faultIn(YARD, why, text, kind, place);
    }

    private static void faultIn(String yard, String why, String text, int kind, int place) {
        SnowForts x = Check.forts(yard);
        Check.due(why, x, Check.orders(x, text), -1, 10);
        Check.due(why + ": fault(0) of " + text, x.fault(0), kind);
        Check.due(why + ": fault(1) of " + text, x.fault(1), place);
        Check.due(why + ": no ORDERS", x, x.run(0), -1, 8);
    }

    private static void faultsOfWords() {
        fault("no step", "fall 1;snow", 2, 7);
        fault("a sign", ";", 2, 0);
        fault("a number", "7", 2, 0);
        fault("no token", "fall 1;!", 1, 7);
        fault("five digits", "fall 00001;", 1, 5);
        fault("the end", "fall 1", 2, 6);
        fault("the end in blanks", "fall  ", 2, 6);
        fault("storm by", "storm 1 by 2;", 2, 8);
        fault("build to", "build 0 0 to 2;", 2, 10);
        fault("steal by", "steal 0 0 by 2;", 2, 10);
        fault("when night", "when night;", 2, 5);
        fault("when breach > 1", "when breach > 1;end;", 2, 12);
        fault("when day 1", "when day 1;end;", 2, 9);
        fault("when day ;", "when day ;end;", 2, 9);
        fault("when way > <", "when way > <;end;", 2, 11);
        fault("night 1", "night 1;", 2, 6);
        fault("an end without a beginning", "night;end;", 2, 6);
        fault("two ends", "loop 2;end;end;", 2, 11);
        fault("the text's end ahead of an end", "loop 2;when breach;end;  ", 2, 25);
        fault("an end with a number", "loop 2;end 2;", 2, 11);
    }

    private static void faultsOfNumbers() {
        fault("fall 41", "fall 41;", 4, 5);
        fault("thaw 41", "thaw 41;", 4, 5);
        fault("storm 41", "storm 41 to 41;", 4, 6);
        fault("storm to 41", "storm 4 to 41;", 4, 11);
        fault("storm above the second", "storm 5 to 4 !", 4, 6);
        fault("storm above what can't be", "storm 5 to 99999;", 1, 11);
        fault("build by 0", "build 0 0 by 0;", 4, 13);
        fault("build by 41", "build 0 0 by 41;", 4, 13);
        fault("steal by 0", "steal 0 0 from 2 0 by 0;", 4, 22);
        fault("steal by 41", "steal 0 0 from 2 0 by 41;", 4, 22);
        fault("loop 0", "loop 0;end;", 4, 5);
        fault("loop 100", "loop 100;end;", 4, 5);
        fault("day 1000", "when day > 1000;end;", 4, 11);
        fault("wall 100", "when wall 0 0 > 100;end;", 4, 16);
        fault("way 1000", "when way > 1000;end;", 4, 11);
    }

    private static void faultsOfCells() {
        fault("no such x", "build 4 0 by 1;", 4, 6);
        fault("no such y", "build 3 2 by 1;", 4, 8);
        fault("no such cell", "ice 4 0;", 4, 4);
        fault("no such cell", "when wall 0 2 > 1;end;", 4, 12);
        fault("no such cell to", "steal 4 0 from 3 0 by 1;", 4, 6);
        fault("no such cell from", "steal 0 0 from 4 0 by 1;", 4, 15);
        fault("no such cell from", "steal 0 0 from 3 2 by 1;", 4, 17);
        fault("steal within one half", "steal 0 0 from 1 1 by 1;", 4, 17);
        fault("steal within one half", "steal 2 0 from 3 1 by 1;", 4, 17);
        String left = "wide 4 high 2;school a hands 9;";
        faultIn(left, "a half without a school", "build 2 0 by 1;", 4, 6);
        faultIn(left, "a half without a school", "ice 2 0;", 4, 4);
        faultIn(left, "a half without a school", "steal 2 0 from 0 0 by 1;", 4, 6);
        faultIn(left, "a half without a school", "when wall 2 0 > 1;end;", 4, 10);
        faultIn("wide 2 high 1;", "no school at all", "ice 0 0;", 4, 4);
        SnowForts x = Check.forts(left);
        Check.due("but that from which is stolen", Check.orders(x, "steal 0 0 from 3 1 by 1;"), 1);
    }

    private static void faultsOfSteps() {
        StringBuilder text = new StringBuilder("loop 2;end;");
        for (int i = 1; i < 30; i++) {
            text.append("night;");
        }
        SnowForts x = new SnowForts();
        Check.due("30 steps", Check.orders(x, text.toString()), 30);
        fault("a 31st", text + "fall 99;", 6, text.length());
        fault("not a 31st step", text + "end;", 2, text.length());
        fault("not a 31st step", text + "snow;", 2, text.length());
        fault("depth 4", "loop 2;loop 2;when breach;loop 2;", 7, 26);
        fault("depth 4", "loop 2;loop 2;when breach;when", 7, 26);
        Check.due("depth 3 twice", Check.orders(x, "loop 2;loop 2;loop 2;end;loop 2;end;end;end;loop 1;end;"), 5);
        StringBuilder deep = new StringBuilder("loop 2;loop 2;loop 2;");
        for (int i = 3; i < 30; i++) {
            deep.append("stop;");
        }
        fault("of one token the least kind", deep + "loop 2;", 6, deep.length());
    }

    private static void runsAreRefused() {
        SnowForts x = new SnowForts();
        Check.due("run(-1)", x, x.run(-1), -1, 5);
        Check.due("run(10000)", x, x.run(10000), -1, 5);
        Check.due("run(0)", x, x.run(0), -1, 8);
        Check.due("ran(0)", x, x.ran(0), -1, 8);
        Check.due("ran(4)", x, x.ran(4), -1, 5);
        Check.due("ran(-1)", x, x.ran(-1), -1, 5);
        Check.due("peaces(0, 1)", x, x.peaces(0, 1), false, 8);
        int[][] wrong = {{-1, 1}, {10000, 1}, {0, 0}, {0, 21}, {9981, 20}, {9999, 2}};
        for (int[] w : wrong) {
            Check.due("peaces that can't be", x, x.peaces(w[0], w[1]), false, 5);
        }
        Check.orders(x, "fall 1;");
        Check.due("run(9999)", x, x.run(9999), 1, 0);
        Check.due("peaces(9980, 20)", x, x.peaces(9980, 20), true, 0);
        x.run(-1);
        Check.due("ran() by the latest with STATUS 0", x, x.ran(0), 0, 0);
        Check.yard(x, "wide 2 high 1;");
        Check.due("ran() in another yard", x, x.ran(0), 0, 0);
    }

    private static void stepsAreDone() {
        SnowForts x = Check.forts(YARD);
        Check.orders(x, "fall 3;build 0 0 by 5;ice 1 1;steal 0 1 from 3 1 by 5;thaw 1;night;build 3 1 by 2;stop;fall 40;");
        Check.due("run(0)", x, x.run(0), 8, 0);
        int[] ran = {0, 7, 2 + 3, 0};
        for (int what = 0; what < ran.length; what++) {
            Check.due("ran(" + what + ")", x, x.ran(what), ran[what], 0);
        }
        Check.due("snow of 0, 0", x.cell(0, 0, 0), 6);
        Check.due("wall of 0, 0", x.cell(0, 0, 1), 5);
        Check.due("snow of 0, 1", x.cell(0, 1, 0), 7);
        Check.due("snow of 3, 1", x.cell(3, 1, 0), 4);
        Check.due("wall of 3, 1", x.cell(3, 1, 1), 2);
        Check.due("ice of 1, 1", x.cell(1, 1, 5), 0);
        Check.due("the day", x.many(3), 1);
        Check.due("breaches", x.many(4), 5);
        Check.due("the run again counts its own", x, x.run(0), 8, 0);
        Check.due("all breaches", x.many(4), 5 + x.ran(2));
    }

    /** The draws as the document tells them. */
    private static void stormsAreDrawn() {
        for (int seed = 0; seed < 10000; seed += 777) {
            SnowForts x = Check.forts("wide 2 high 1;");
            Check.orders(x, "storm 0 to 0;loop 4;storm 3 to 9;thaw 40;storm 5 to 5;storm 0 to 40;thaw 40;end;");
            x.run(seed);
            int s = (seed * 2741 + 9337) % 65536;
            int fell = 0;
            for (int round = 0; round < 4; round++) {
                s = (s * 2741 + 9337) % 65536;
                fell += 3 + s / 8 % 7;
                s = (s * 2741 + 9337) % 65536;
                fell += 5;
                s = (s * 2741 + 9337) % 65536;
                fell += s / 8 % 41;
            }
            Check.due("fell by seed " + seed, x.many(9), 2 * fell);
        }
    }

    private static void whatCannotBeIsMissed() {
        SnowForts x = Check.forts("wide 2 high 1;school a hands 3;snow 0 0 deep 1;snow 1 0 deep 2;");
        Check.orders(x, "ice 0 0;build 0 0 by 9;build 0 0 by 1;ice 0 0;ice 0 0;steal 0 0 from 1 0 by 1;night;"
            + "steal 0 0 from 1 0 by 9;steal 0 0 from 1 0 by 9;fall 0;thaw 0;");
        Check.due("run(1)", x, x.run(1), 11, 0);
        // the first ice, a build without snow, an ice of the iced one, a steal without hands, one without snow
        Check.due("missed", x, x.ran(0), 5, 0);
        Check.due("built", x, x.ran(1), 1, 0);
    }

    private static int stepsOf(String yard, String orders) {
        SnowForts x = Check.forts(yard);
        Check.orders(x, orders);
        Check.due("taken: " + orders, x.status(), 0);
        return x.run(0);
    }

    private static void testsCompare() {
        String[] signs = {"<", "=", ">"};
        for (int sign = 0; sign < 3; sign++) {
            for (int limit = 1; limit <= 3; limit++) {
                int due = Integer.signum(2 - limit) + 1 == sign ? 6 : 5;
                String test = signs[sign] + limit + ";fall 0;end;fall 0;";
                Check.due("day" + test, stepsOf(YARD, "night;night;fall 0;when day" + test), due);
                Check.due("wall" + test, stepsOf(YARD, "fall 0;fall 0;fall 0;when wall 1 1" + test), due);
                Check.due("way" + test, stepsOf("wide 2 high 1;", "fall 2;thaw 0;fall 0;when way" + test), due);
            }
        }
        Check.due("no breach", stepsOf(YARD, "when breach;fall 0;end;fall 0;"), 2);
        Check.due("a breach", stepsOf(YARD, "build 0 0 by 4;when breach;fall 0;end;fall 0;"), 4);
        SnowForts x = Check.forts(YARD);
        x.build(0, 0, 4);
        Check.orders(x, "when breach;fall 0;end;");
        Check.due("a breach ahead of the run", x.run(0), 2);
        Check.due("is none in it", x.ran(2), 0);
        Check.due("a when within a when", stepsOf(YARD, "when day=0;when day>0;fall 0;end;fall 0;end;"), 3);
    }

    private static void loopsGoRound() {
        SnowForts x = new SnowForts();
        Check.orders(x, "loop 3;fall 1;loop 2;fall 2;end;end;");
        Check.due("3 by 2", x, x.run(0), 1 + 3 * (1 + 1 + 2), 0);
        Check.due("fell", x.many(9), 2 * 3 * (1 + 4));
        Check.orders(x, "loop 99;end;loop 1;night;end;");
        Check.due("an empty loop", x, x.run(0), 3, 0);
        Check.due("the day", x.many(3), 1);
        Check.orders(x, "loop 9;night;when day>5;stop;end;end;fall 1;");
        Check.due("stop within a loop", x, x.run(0), 1 + 5 * 2 + 1, 0);
        Check.due("nothing is left over", x, x.ran(3), 0, 0);
        Check.due("the day", x.many(3), 6);
    }

    private static void leftOver(String orders, int steps, int left) {
        SnowForts x = new SnowForts();
        Check.orders(x, orders);
        Check.due("steps of " + orders, x, x.run(0), steps, 0);
        Check.due("left over of " + orders, x, x.ran(3), left, 0);
    }

    private static void threeHundredSteps() {
        String most = "loop 99;fall 0;fall 0;fall 0;end;";
        leftOver(most + "fall 0;", 299, 0);
        leftOver(most + "fall 0;fall 0;", 300, 0);
        leftOver(most + "fall 0;fall 0;fall 0;", 300, 1);
        leftOver(most + "fall 0;stop;", 300, 0);
        leftOver(most + "fall 0;fall 0;stop;", 300, 1);
        leftOver(most + "fall 0;loop 99;end;", 300, 0);
        leftOver(most + "fall 0;fall 0;loop 99;end;", 300, 1);
        leftOver(most + "fall 0;loop 2;fall 0;end;", 300, 1);
        leftOver(most + "loop 1;fall 0;end;", 300, 0);
        leftOver(most + "loop 2;fall 0;end;", 300, 1);
        leftOver(most + "fall 0;when day>9;fall 0;end;", 300, 0);
        leftOver(most + "fall 0;when day<9;fall 0;end;", 300, 1);
        leftOver("loop 99;loop 99;loop 99;end;end;end;", 300, 1);
    }

    private static void peacesAreCounted() {
        SnowForts x = Check.forts("wide 2 high 1;school a hands 9;wall 0 0 tall 1;snow 0 0 deep 1;snow 1 0 deep 2;");
        x.ice(0, 0);
        x.look(1, 0);
        Check.orders(x, "storm 0 to 9;build 0 0 by 1;night;");
        x.run(3);
        x.mark();
        int peaceful = 0;
        for (int seed = 100; seed < 117; seed++) {
            x.mark();
            x.run(seed);
            peaceful += x.peace();
            x.back();
        }
        int snow = x.many(5);
        int built = x.ran(1);
        x.way();
        Check.orders(x, "storm 0 to 9;build 0 0 by 1;night;");
        Check.due("peaces(100, 17)", x, x.peaces(100, 17), true, 0);
        Check.due("as many as by runs", x.top() * 17, peaceful * x.bottom());
        Check.due("all stays: snow", x.many(5), snow);
        Check.due("all stays: day", x.many(3), 1);
        Check.due("all stays: ice", x.cell(0, 0, 5), 1);
        Check.due("all stays: what is known", x.hiding(1), 0);
        Check.due("all stays: ran()", x.ran(1), built);
        Check.due("all stays: marks", x.back(), 0);
        x = Check.forts("wide 2 high 1;");
        Check.orders(x, "");
        Check.due("peaces(0, 20)", x, x.peaces(0, 20), true, 0);
        Check.due("surely", x.top(), 1);
        Check.due("surely", x.bottom(), 1);
        Check.orders(x, "fall 40;");
        Check.due("peaces(0, 20)", x, x.peaces(0, 20), true, 0);
        Check.due("never", x.top(), 0);
        Check.due("never", x.bottom(), 1);
        Check.orders(x, "storm 4 to 5;");
        x.peaces(0, 20);
        Check.due("now and then", x.top() > 0 || x.many(5) > 0, false);
        Check.orders(x, "storm 3 to 5;");
        x.peaces(0, 20);
        int by3 = 0;
        for (int seed = 0; seed < 20; seed++) {
            by3 += (seed * 2741 + 9337) % 65536 / 8 % 3 == 0 ? 1 : 0;
        }
        Check.due("of 20", 20 * x.top(), by3 * x.bottom());
    }
}
