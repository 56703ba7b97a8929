import java.math.BigInteger;
import java.util.ArrayList;
import java.util.HashMap;
import java.util.List;
import java.util.Map;

/** A plain model of the whole class, from the document's words alone: what each call is due to answer. */
final class PlainForts {
    int status;
    long top;
    long bottom = 1;
    private final long[][] trays = new long[4][];
    private final int[] sorts = new int[4];
    private final StringBuilder tape = new StringBuilder();
    private int fault = -1;
    private int faultPlace = -1;
    private PlainYard yard = new PlainYard();
    private List<PlainText.Step> orders;
    private List<int[]> way;
    private int[] worked;
    private int[] ran;

    private record Mark(PlainYard yard, List<PlainText.Step> orders) { }

    private final List<Mark> marks = new ArrayList<>();

    private long no(int why) {
        status = why;
        return -1;
    }

    private boolean not(int why) {
        status = why;
        return false;
    }

    private long told(long answer) {
        status = 0;
        return answer;
    }

    private boolean done() {
        status = 0;
        return true;
    }

    private static boolean in(long value, long low, long high) {
        return low <= value && value <= high;
    }

    // ---- trays

    boolean tray(int tray, int sort, int many) {
        if (!in(tray, 0, 3) || !in(sort, 0, 3)) {
            return not(1);
        }
        if (!in(many, 0, 60)) {
            return not(many < 0 ? 6 : 5);
        }
        trays[tray] = new long[many];
        sorts[tray] = sort;
        return done();
    }

    private int noPlace(int tray, int place) {
        if (!in(tray, 0, 3)) {
            return 1;
        }
        return trays[tray] == null ? 3 : in(place, 0, trays[tray].length - 1) ? 0 : 4;
    }

    boolean write(int tray, int place, long v) {
        int why = noPlace(tray, place);
        if (why != 0) {
            return not(why);
        }
        int bits = 8 << sorts[tray];
        trays[tray][place] = v << 64 - bits >> 64 - bits;
        return done();
    }

    long read(int tray, int place) {
        int why = noPlace(tray, place);
        return why == 0 ? told(trays[tray][place]) : no(why);
    }

    boolean pour(int tray, int i, int to, int j, int many) {
        if (!in(tray, 0, 3) || !in(to, 0, 3)) {
            return not(1);
        }
        if (trays[tray] == null || trays[to] == null) {
            return not(3);
        }
        if (sorts[tray] != sorts[to]) {
            return not(11);
        }
        if (many < 0) {
            return not(6);
        }
        if (i < 0 || j < 0 || (long) i + many > trays[tray].length || (long) j + many > trays[to].length) {
            return not(4);
        }
        long[] were = trays[tray].clone();
        for (int k = 0; k < many; k++) {
            trays[to][j + k] = were[i + k];
        }
        return done();
    }

    // ---- texts

    long feed(int... five) {
        if (tape.length() + 20 > 900) {
            return -1;
        }
        for (int each : five) {
            for (int by = 24; by >= 0; by -= 8) {
                tape.append((char) (each >> by & 255));
            }
        }
        return tape.length();
    }

    private PlainText takeTape(int n) {
        String text = tape.substring(0, n);
        tape.setLength(0);
        return new PlainText(text);
    }

    private long faulty(PlainText.Fault why) {
        fault = why.kind;
        faultPlace = why.place;
        return no(10);
    }

    private long taken(long answer) {
        fault = 0;
        faultPlace = -1;
        return told(answer);
    }

    long yard(int n) {
        if (!in(n, 0, tape.length())) {
            return no(5);
        }
        try {
            yard = takeTape(n).yard();
            orders = null;
            return taken(yard.cells(-1).size());
        } catch (PlainText.Fault why) {
            return faulty(why);
        }
    }

    long orders(int n) {
        if (!in(n, 0, tape.length()) || n > 300) {
            return no(5);
        }
        PlainText text = takeTape(n);
        try {
            orders = text.orders(yard);
            return taken(text.steps());
        } catch (PlainText.Fault why) {
            return faulty(why);
        }
    }

    long fault(int what) {
        return what == 0 ? fault : what == 1 ? faultPlace : -1;
    }

    long many(int what) {
        if (!in(what, 0, 9)) {
            return no(5);
        }
        int[] all = {yard.wide, yard.high, yard.schools.size(), yard.day, yard.breaches(), yard.sum(yard.snow, -1),
            yard.sum(yard.wall, -1), yard.melted, yard.ranOff, yard.fell};
        return told(all[what]);
    }

    long cell(int x, int y, int what) {
        if (!yard.isCell(x, y) || !in(what, 0, 5)) {
            return no(yard.isCell(x, y) ? 5 : 2);
        }
        int[] all = {yard.snow[x][y], yard.wall[x][y], yard.sun[x][y], yard.lastWall[x][y], yard.half(x),
            yard.iced[x][y] ? 1 : 0};
        return told(all[what]);
    }

    long school(int school, int what) {
        if (!yard.hasSchool(school) || !in(what, 0, 4)) {
            return no(yard.hasSchool(school) ? 5 : 2);
        }
        return told(what < 3 ? yard.schools.get(school)[what] : what == 3 ? yard.icedOf(school) : yard.sum(yard.wall, school));
    }

    long article(int kind) {
        if (!in(kind, 0, 3)) {
            return no(5);
        }
        return yard.articles[kind] == null ? no(8) : told(yard.articles[kind]);
    }

    long breach(int what) {
        if (!in(what, 0, 4)) {
            return no(5);
        }
        return yard.firstBreach == null ? no(8) : told(yard.firstBreach[what]);
    }

    // ---- days

    long fall(int n) {
        return in(n, 0, 40) ? told(yard.fall(n)) : no(5);
    }

    long thaw(int n) {
        return in(n, 0, 40) ? told(yard.thaw(n)) : no(5);
    }

    private long some(int units) {
        return units > 0 ? told(units) : no(9);
    }

    long build(int x, int y, int n) {
        if (!yard.isOwned(x, y)) {
            return no(2);
        }
        return in(n, 1, 40) ? some(yard.build(x, y, n)) : no(5);
    }

    boolean ice(int x, int y) {
        if (!yard.isOwned(x, y)) {
            return not(2);
        }
        return yard.ice(x, y) ? done() : not(9);
    }

    long steal(int x, int y, int fromX, int fromY, int n) {
        if (!yard.isOwned(x, y) || !yard.isCell(fromX, fromY)) {
            return no(2);
        }
        return in(n, 1, 40) ? some(yard.steal(x, y, fromX, fromY, n)) : no(5);
    }

    long night() {
        return yard.night() ? told(yard.day) : no(7);
    }

    // ---- the treaty

    long room(int x, int y) {
        return yard.isOwned(x, y) ? told(yard.room(x, y)) : no(2);
    }

    long most(int school) {
        return yard.hasSchool(school) ? told(yard.most(school)) : no(2);
    }

    long lowest(int half) {
        return in(half, 0, 1) ? told(yard.cells(half).stream().mapToInt(yard::top).min().getAsInt()) : no(5);
    }

    long highest(int half) {
        return in(half, 0, 1) ? told(yard.cells(half).stream().mapToInt(yard::top).max().getAsInt()) : no(5);
    }

    long steepest() {
        return told(yard.steepest());
    }

    long level(int half) {
        if (!in(half, 0, 1)) {
            return no(5);
        }
        int gone = yard.level(half);
        return gone < 0 ? no(9) : told(gone);
    }

    long unlike() {
        return told(yard.unlike());
    }

    long lasting(int school, int days, int n) {
        if (!yard.hasSchool(school)) {
            return no(2);
        }
        return in(days, 0, 30) && in(n, 0, 40) ? told(yard.lasting(school, days, n)) : no(5);
    }

    // ---- the way over, ice

    long way() {
        way = yard.wayCells();
        return told(yard.cost());
    }

    long wayAt(int k, int what) {
        if (!in(what, 0, 1)) {
            return no(5);
        }
        return way == null || !in(k, 0, way.size() - 1) ? no(8) : told(way.get(k)[what]);
    }

    long peace() {
        return told(yard.cost() <= 4 ? 1 : 0);
    }

    long look(int x, int y) {
        if (!yard.isCell(x, y)) {
            return no(2);
        }
        yard.known[x][y] = true;
        return told(yard.iced[x][y] ? 1 : 0);
    }

    long hiding(int half) {
        return in(half, 0, 1) ? told(yard.hiding(half)) : no(5);
    }

    /** Whoever iced the walls did so where is looked last. */
    private static int looks(int hidden, int iced) {
        return hidden == iced ? 1 : 1 + looks(hidden - 1, iced);
    }

    long sure(int half, int iced) {
        if (!in(half, 0, 1) || !in(iced, 1, 18)) {
            return no(5);
        }
        return iced > yard.hiding(half) ? no(9) : told(looks(yard.hiding(half), iced));
    }

    // ---- mornings

    long works(int tray, int thaws, int many) {
        if (!in(tray, 0, 3) || !in(thaws, 0, 3)) {
            return no(1);
        }
        if (trays[tray] == null || trays[thaws] == null) {
            return no(3);
        }
        if (many > trays[tray].length || many - 1L > trays[thaws].length) {
            return no(4);
        }
        boolean can = in(many, 2, 12);
        for (int i = 0; i < many && can; i++) {
            can = in(trays[tray][i], 0, 99) && (i == many - 1 || in(trays[thaws][i], 0, 20));
        }
        return can ? told(rowsOfWorks(trays[tray], trays[thaws], many)) : no(5);
    }

    private long rowsOfWorks(long[] heights, long[] thaws, int many) {
        long rows = 1;
        int[] all = {0, 0, 0};
        int hardest = -1;
        for (int night = 0; night < many - 1; night++) {
            List<Integer> can = new ArrayList<>();
            for (int built = 0; built <= 9; built++) {
                if (Math.max(0, heights[night] + built - thaws[night]) == heights[night + 1]) {
                    can.add(built);
                }
            }
            rows *= can.size();
            if (rows == 0) {
                worked = null;
                return 0;
            }
            all[0] += can.get(0);
            all[1] += can.get(can.size() - 1);
            if (can.get(0) > hardest) {
                hardest = can.get(0);
                all[2] = night;
            }
        }
        worked = all;
        return rows;
    }

    long worked(int what) {
        if (!in(what, 0, 2)) {
            return no(5);
        }
        return worked == null ? no(8) : told(worked[what]);
    }

    // ---- the game

    private static boolean isGame(int a, int b, int m, int k) {
        return in(a, 0, 12) && in(b, 0, 12) && in(m, 1, 4) && in(k, 0, 4);
    }

    private static boolean mayRaise(int a, int b, int m, int k, int raise) {
        return raise <= m && a + raise <= b + k && a + raise <= 12;
    }

    private static int winningRaise(int a, int b, int m, int k, Map<Integer, Integer> tried) {
        Integer old = tried.get(a * 13 + b);
        if (old != null) {
            return old;
        }
        int least = 0;
        for (int raise = m; raise >= 1; raise--) {
            if (mayRaise(a, b, m, k, raise) && winningRaise(b, a + raise, m, k, tried) == 0) {
                least = raise;
            }
        }
        tried.put(a * 13 + b, least);
        return least;
    }

    long wins(int a, int b, int m, int k) {
        return isGame(a, b, m, k) ? told(winningRaise(a, b, m, k, new HashMap<>())) : no(5);
    }

    private static int turnsOf(int a, int b, int m, int k) {
        int raise = m;
        while (raise > 0 && !mayRaise(a, b, m, k, raise)) {
            raise--;
        }
        return raise == 0 ? 0 : 1 + turnsOf(b, a + raise, m, k);
    }

    long turns(int a, int b, int m, int k) {
        return isGame(a, b, m, k) ? told(turnsOf(a, b, m, k)) : no(5);
    }

    // ---- odds

    private int noOdds(int wall, int days, int tray) {
        if (!in(tray, 0, 3)) {
            return 1;
        }
        if (trays[tray] == null || trays[tray].length < 4) {
            return trays[tray] == null ? 3 : 4;
        }
        BigInteger sum = BigInteger.ZERO;
        boolean can = in(wall, 1, 99) && in(days, 1, 8);
        for (int i = 0; i < 4; i++) {
            sum = sum.add(BigInteger.valueOf(trays[tray][i]));
            can &= trays[tray][i] >= 0;
        }
        return can && sum.equals(BigInteger.valueOf(16)) ? 0 : 5;
    }

    /** By all thaws of all days: how many of all cases stand, or all heights together. */
    private BigInteger cases(int wall, int days, long[] odds, boolean isMean, Map<Integer, BigInteger> tried) {
        if (days == 0) {
            return BigInteger.valueOf(isMean ? wall : Math.min(wall, 1));
        }
        BigInteger old = tried.get(wall * 10 + days);
        if (old != null) {
            return old;
        }
        BigInteger sum = BigInteger.ZERO;
        for (int thaw = 0; thaw < 4; thaw++) {
            BigInteger then = cases(Math.max(0, wall - thaw), days - 1, odds, isMean, tried);
            sum = sum.add(then.multiply(BigInteger.valueOf(odds[thaw])));
        }
        tried.put(wall * 10 + days, sum);
        return sum;
    }

    private boolean odds(int wall, int days, int tray, boolean isMean) {
        int why = noOdds(wall, days, tray);
        if (why != 0) {
            return not(why);
        }
        fraction(cases(wall, days, trays[tray], isMean, new HashMap<>()), BigInteger.valueOf(16).pow(days));
        return done();
    }

    private void fraction(BigInteger a, BigInteger b) {
        top = a.divide(a.gcd(b)).longValueExact();
        bottom = b.divide(a.gcd(b)).longValueExact();
    }

    boolean stands(int wall, int days, int tray) {
        return odds(wall, days, tray, false);
    }

    boolean mean(int wall, int days, int tray) {
        return odds(wall, days, tray, true);
    }

    // ---- orders

    /** One run: what came of it. */
    private static final class Run {
        private final PlainYard yard;
        private long s;
        int done;
        /** MISSED, units built, BREACHES, a STEP left. */
        final int[] ran = new int[4];

        Run(PlainYard yard, int seed, List<PlainText.Step> orders) {
            this.yard = yard;
            s = seed;
            int before = yard.breaches();
            goesOn(orders);
            ran[2] = yard.breaches() - before;
        }

        private int draw(int n) {
            s = (s * 2741 + 9337) % 65536;
            return (int) (s / 8 % n);
        }

        private boolean goesOn(List<PlainText.Step> steps) {
            for (PlainText.Step step : steps) {
                if (done == 300) {
                    ran[3] = 1;
                    return false;
                }
                done++;
                if (step.word.equals("stop") || !does(step)) {
                    return false;
                }
            }
            return true;
        }

        private boolean does(PlainText.Step step) {
            List<Integer> n = step.numbers;
            switch (step.word) {
                case "loop":
                    for (int i = 0; i < n.get(0); i++) {
                        if (!goesOn(step.inside)) {
                            return false;
                        }
                    }
                    return true;
                case "when breach":
                    return yard.breaches() == 0 || goesOn(step.inside);
                case "when day":
                    return !holds(yard.day, step, n.get(0)) || goesOn(step.inside);
                case "when wall":
                    return !holds(yard.wall[n.get(0)][n.get(1)], step, n.get(2)) || goesOn(step.inside);
                case "when way":
                    return !holds(yard.cost(), step, n.get(0)) || goesOn(step.inside);
                default:
                    ran[0] += acts(step.word, n) ? 0 : 1;
                    return true;
            }
        }

        private static boolean holds(int value, PlainText.Step step, int with) {
            return step.compares == '=' ? value == with : step.compares == '<' ? value < with : value > with;
        }

        private boolean acts(String word, List<Integer> n) {
            switch (word) {
                case "fall":
                    yard.fall(n.get(0));
                    return true;
                case "thaw":
                    yard.thaw(n.get(0));
                    return true;
                case "storm":
                    yard.fall(n.get(0) + draw(n.get(1) - n.get(0) + 1));
                    return true;
                case "build":
                    int units = yard.build(n.get(0), n.get(1), n.get(2));
                    ran[1] += units;
                    return units > 0;
                case "ice":
                    return yard.ice(n.get(0), n.get(1));
                case "steal":
                    return yard.steal(n.get(0), n.get(1), n.get(2), n.get(3), n.get(4)) > 0;
                default:
                    return yard.night();
            }
        }
    }

    long run(int seed) {
        if (!in(seed, 0, 9999) || orders == null) {
            return no(in(seed, 0, 9999) ? 8 : 5);
        }
        Run run = new Run(yard, seed, orders);
        ran = run.ran;
        return told(run.done);
    }

    long ran(int what) {
        if (!in(what, 0, 3)) {
            return no(5);
        }
        return ran == null ? no(8) : told(ran[what]);
    }

    boolean peaces(int seed, int many) {
        if (!in(seed, 0, 9999) || !in(many, 1, 20) || seed + many - 1 > 9999) {
            return not(5);
        }
        if (orders == null) {
            return not(8);
        }
        int count = 0;
        for (int i = 0; i < many; i++) {
            PlainYard then = yard.copy();
            new Run(then, seed + i, orders);
            count += then.cost() <= 4 ? 1 : 0;
        }
        fraction(BigInteger.valueOf(count), BigInteger.valueOf(many));
        return done();
    }

    // ---- marks

    long mark() {
        if (marks.size() == 3) {
            return no(7);
        }
        marks.add(new Mark(yard.copy(), orders));
        return told(marks.size());
    }

    long back() {
        if (marks.isEmpty()) {
            return no(8);
        }
        Mark mark = marks.remove(marks.size() - 1);
        yard = mark.yard();
        orders = mark.orders();
        return told(marks.size());
    }
}
