import java.util.Random;

/** Wild calls: none throws, each has a STATUS, and what fails changes nothing. */
public final class WildTest {
    private static final String[] YARDS = {"wide 2 high 1;", "wide 4 high 2;school a hands 20;no ice above 0;snow 0 0 deep 9;",
        "wide 6 high 6;school a hands 40;school b hands 40;no steal;no build behind 3;no wall above 1;snow 5 5 deep 99;"
            + "snow 0 0 deep 99;wall 1 1 tall 3;wall 4 4 tall 4;sun 2 2 by 9;",
        "wide 2 high 6;school x hands 0;school y hands 40;wall 0 0 tall 99;wall 1 5 tall 99;", "wide 2", "snow;"};
    private static final String[] ORDERS = {"", "fall 1;thaw 2;night;", "loop 99;storm 0 to 9;when way>9;thaw 3;end;end;",
        "build 0 0 by 40;ice 0 0;steal 0 0 from 1 0 by 3;when breach;stop;end;", "loop 99;loop 99;end;end;", "end;"};
    private static final int[] EDGES = {Integer.MIN_VALUE, -1, 0, 1, 2, 12, 13, 18, 20, 40, 41, 60, 99, 300, 900, 9999,
        Integer.MAX_VALUE};

    private final Random random;
    private final SnowForts x = new SnowForts();

    private WildTest(int seed) {
        random = new Random(seed);
    }

    public static void main(String[] args) {
        for (int seed = 0; seed < 600; seed++) {
            WildTest test = new WildTest(seed);
            for (int i = 0; i < 60; i++) {
                test.act("seed " + seed + ", act " + i);
            }
        }
        Check.end("WildTest");
    }

    private int any() {
        return random.nextInt(3) == 0 ? EDGES[random.nextInt(EDGES.length)] : random.nextInt(6) - 1;
    }

    /** What the object tells of itself, but for its status. */
    private String told() {
        StringBuilder all = new StringBuilder();
        for (int what = 0; what < 10; what++) {
            all.append(x.many(what)).append(' ');
        }
        for (int cell = 0; cell < 36; cell += 5) {
            for (int what = 0; what < 6; what++) {
                all.append(x.cell(cell % 6, cell / 6, what)).append(' ');
            }
        }
        for (int what = 0; what < 5; what++) {
            all.append(x.school(0, what)).append(' ').append(x.school(1, what)).append(' ').append(x.article(what))
                .append(' ').append(x.breach(what)).append(' ').append(x.ran(what)).append(' ').append(x.worked(what))
                .append(' ').append(x.wayAt(what, 0)).append(' ').append(x.wayAt(what, 1)).append(' ')
                .append(x.read(what, 0)).append(' ').append(x.read(what, 3)).append(' ');
        }
        return all.append(x.hiding(0)).append(x.top()).append('/').append(x.bottom()).toString();
    }

    private void act(String when) {
        String before = told();
        boolean isText = false;
        long answer;
        int call = random.nextInt(45);
        if (call == 0) {
            answer = Check.yard(x, YARDS[random.nextInt(YARDS.length)]);
        } else if (call == 1) {
            answer = Check.orders(x, ORDERS[random.nextInt(ORDERS.length)]);
        } else {
            answer = doCall(call);
        }
        int status = x.status();
        Check.due(when + ": status of call " + call, status >= 0 && status <= 11, true);
        if (status != 0) {
            boolean none = answer == -1 || answer == 0 && isTrueOrFalse(call);
            Check.due(when + ": answer of call " + call + " with STATUS " + status, none, true);
            Check.due(when + ": nothing changed by call " + call, told().equals(before), true);
        }
        isText |= call < 2;
        Check.due(when + ": fault", isText && status == 10 ? x.fault(0) > 0 : true, true);
        Check.due(when + ": all snow", x.many(5) >= 0 && x.many(8) >= 0 && x.bottom() > 0, true);
    }

    private static boolean isTrueOrFalse(int call) {
        return call == 2 || call == 3 || call == 5 || call == 12 || call >= 34 && call <= 36;
    }

    private long asNumber(boolean answer) {
        return answer ? 1 : 0;
    }

    private long doCall(int call) {
        int a = any();
        int b = any();
        int c = any();
        int d = any();
        int e = any();
        switch (call) {
            case 2: return asNumber(x.tray(a, b, c));
            case 3: return asNumber(x.write(a, b, random.nextInt(5) == 0 ? random.nextLong() : random.nextInt(17)));
            case 4: return x.read(a, b);
            case 5: return asNumber(x.pour(a, b, c, d, e));
            case 6: return x.many(a);
            case 7: return x.cell(a, b, c);
            case 8: return x.school(a, b);
            case 9: return x.article(a);
            case 10: return x.breach(a);
            case 11: return x.fall(a);
            case 12: return asNumber(x.ice(a, b));
            case 13: return x.thaw(a);
            case 14: return x.build(a, b, c);
            case 15: return x.steal(a, b, c, d, e);
            case 16: return x.night();
            case 17: return x.room(a, b);
            case 18: return x.most(a);
            case 19: return x.lowest(a);
            case 20: return x.highest(a);
            case 21: return x.steepest();
            case 22: return x.level(a);
            case 23: return x.unlike();
            case 24: return x.lasting(a, b, c);
            case 25: return x.way();
            case 26: return x.wayAt(a, b);
            case 27: return x.peace();
            case 28: return x.look(a, b);
            case 29: return x.hiding(a);
            case 30: return x.sure(a, b);
            case 31: return x.works(a, b, c);
            case 32: return x.worked(a);
            case 33: return x.wins(a, b, c, d);
            case 34: return asNumber(x.stands(a, b, c));
            case 35: return asNumber(x.mean(a, b, c));
            case 36: return asNumber(x.peaces(a, b));
            case 37: return x.turns(a, b, c, d);
            case 38: return x.run(a);
            case 39: return x.ran(a);
            case 40: return x.mark();
            case 41: return x.back();
            case 42: return x.yard(a < 0 ? a : 999);
            case 43: return x.orders(a < 0 ? a : 301);
            default: return fedText();
        }
    }

    /** Bytes of any kind as a yard or orders. */
    private long fedText() {
        String[] words = {"wide ", "4 ", "high ", "2 ", ";", "school ", "snow ", "wall ", "0 ", "loop ", "end", "when ", "day ",
            "<", "q ", "77777 ", "~", "no ", "steal", "fall "};
        StringBuilder text = new StringBuilder(random.nextBoolean() ? "wide 4 high 2;" : "loop 2;");
        for (int i = random.nextInt(12); i > 0; i--) {
            text.append(words[random.nextInt(words.length)]);
        }
        return random.nextBoolean() ? Check.yard(x, text.toString()) : Check.orders(x, text.toString());
    }
}
