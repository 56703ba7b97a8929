import java.util.Random;

/** All calls one behind another, by draws of a fixed seed, beside a plain model of the whole document. */
public final class WholeTest {
    /** An object is used for at most 512 calls; this leaves room for a text and all that is told at the end. */
    private static final int CALLS = 360;
    private static final int KINDS = 44;
    private static final String[] ODD = {"wide", "school", "no", "end", "loop 2", "when breach", "zz", "abcdefghi", "0", "7", "41",
        "100", "1000", "00001", ";", "<", "!", "A", "\t", "\u00e9", "\n", ""};

    private final Random draws;
    private final SnowForts x = new SnowForts();
    private final PlainForts model = new PlainForts();
    /** How often each STATUS was told, each kind of call done. */
    private final int[] statuses;
    private final int[] dones;
    private String when;
    private int calls;
    /** The STATUS of the latest call that was compared. */
    private int outcome;
    private int wide = 2;
    private int high = 1;

    private WholeTest(int seed, int[] statuses, int[] dones) {
        draws = new Random(seed);
        this.statuses = statuses;
        this.dones = dones;
    }

    public static void main(String[] args) {
        int first = args.length > 1 ? Integer.parseInt(args[0]) : 0;
        int last = args.length > 1 ? Integer.parseInt(args[1]) : 1500;
        int[] statuses = new int[12];
        int[] dones = new int[KINDS];
        for (int seed = first; seed < last; seed++) {
            WholeTest test = new WholeTest(seed, statuses, dones);
            for (int i = 0; test.calls < CALLS; i++) {
                test.when = "seed " + seed + ", act " + i + ": ";
                test.act();
            }
            test.compareAll();
            Check.due("seed " + seed + ": at most 512 calls", test.calls <= 512, true);
        }
        for (int status = 0; status < statuses.length; status++) {
            Check.due("STATUS " + status + " often enough", statuses[status] >= 20, true);
        }
        for (int kind = 0; kind < KINDS; kind++) {
            Check.due("calls of kind " + kind + " done often enough", dones[kind] >= 20, true);
        }
        Check.end("WholeTest");
    }

    private int any(int below) {
        return draws.nextInt(below);
    }

    private boolean rarely() {
        return any(15) == 0;
    }

    /** A number from low to high, often one of these two, at times one beside them, or far off. */
    private int from(int low, int high) {
        if (any(25) == 0) {
            int[] odd = {low - 1, high + 1, -1, Integer.MIN_VALUE, Integer.MAX_VALUE};
            return odd[any(odd.length)];
        }
        return any(8) > 0 ? low + any(high - low + 1) : any(2) == 0 ? low : high;
    }

    private void due(String told, long got, long want) {
        Check.due(when + told, got, want);
        Check.due(when + told + ": status()", x.status(), model.status);
        outcome = model.status;
        calls += 2;
    }

    private void due(String told, boolean got, boolean want) {
        due(told, got ? 1 : 0, want ? 1 : 0);
    }

    private void dueFraction(String told) {
        Check.due(when + told + ": top()", x.top(), model.top);
        Check.due(when + told + ": bottom()", x.bottom(), model.bottom);
        calls += 2;
    }

    private void act() {
        int kind = any(9) == 0 ? any(2) : any(KINDS);
        if (kind < 2) {
            text(kind == 0);
        } else if (kind < 10) {
            tray(kind);
        } else if (kind < 20) {
            day(kind);
        } else if (kind < 30) {
            ask(kind);
        } else {
            other(kind);
        }
        statuses[outcome]++;
        dones[kind] += outcome == 0 ? 1 : 0;
    }

    // ---- trays, odds, mornings

    private void tray(int kind) {
        int a = from(0, 3);
        int b = from(0, 3);
        int i = from(0, 6);
        switch (kind) {
            case 2 -> {
                int sort = any(3) == 0 ? from(0, 3) : 1;
                int many = rarely() ? from(0, 60) : from(3, 8);
                due("tray", x.tray(a, sort, many), model.tray(a, sort, many));
            }
            case 3, 4 -> {
                long v = rarely() ? draws.nextLong() : any(3) == 0 ? from(-130, 300) : any(10);
                due("write " + v, x.write(a, i, v), model.write(a, i, v));
            }
            case 5 -> due("read", x.read(a, i), model.read(a, i));
            case 6 -> {
                int j = from(0, 6);
                int many = from(0, 6);
                due("pour", x.pour(a, i, b, j, many), model.pour(a, i, b, j, many));
            }
            case 7, 8 -> odds(kind == 7, a);
            default -> works(a, b);
        }
    }

    private void write(int tray, int place, long v) {
        x.write(tray, place, v);
        model.write(tray, place, v);
        calls++;
    }

    private void make(int tray, int sort, int many) {
        x.tray(tray, sort, many);
        model.tray(tray, sort, many);
        calls++;
    }

    private void odds(boolean isMean, int tray) {
        int wall = from(1, any(2) == 0 ? 12 : 99);
        int days = from(1, 8);
        if (any(4) > 0) {
            make(tray, any(4), 4 + any(2));
        }
        int left = 16;
        for (int i = 0; i < 3; i++) {
            int part = any(left + 1);
            write(tray, i, part);
            left -= part;
        }
        write(tray, 3, rarely() ? any(17) : left);
        write(tray, 4, 1);
        String told = (isMean ? "mean " : "stands ") + wall + " " + days;
        due(told, isMean ? x.mean(wall, days, tray) : x.stands(wall, days, tray),
            isMean ? model.mean(wall, days, tray) : model.stands(wall, days, tray));
        dueFraction(told);
    }

    private void works(int tray, int thaws) {
        int many = rarely() ? from(0, 14) : any(2) == 0 ? from(2, 12) : from(2, 4);
        if (tray != thaws && any(4) > 0) {
            make(tray, any(4), rarely() ? any(13) : 13);
            make(thaws, any(4), rarely() ? any(12) : 12);
        }
        int height = any(3) == 0 ? any(100) : any(8);
        for (int i = 0; i < many && i < 13; i++) {
            int thaw = any(10) == 0 ? from(0, 20) : any(12);
            write(tray, i, any(40) == 0 ? from(0, 99) : height);
            if (tray != thaws) {
                write(thaws, i, thaw);
            }
            height = Math.max(0, Math.min(99, height + any(rarely() ? 12 : 10) - thaw));
        }
        due("works " + many, x.works(tray, thaws, many), model.works(tray, thaws, many));
    }

    // ---- days, the treaty

    private void day(int kind) {
        int a = from(0, wide - 1);
        int b = from(0, high - 1);
        int c = from(0, wide - 1);
        int d = from(0, high - 1);
        int n = any(3) == 0 ? from(0, 40) : 1 + any(5);
        switch (kind) {
            case 10, 11 -> due("fall " + n, x.fall(n), model.fall(n));
            case 12 -> due("thaw " + n, x.thaw(n), model.thaw(n));
            case 13, 14 -> due("build", x.build(a, b, n), model.build(a, b, n));
            case 15 -> due("ice", x.ice(a, b), model.ice(a, b));
            case 16 -> due("steal", x.steal(a, b, c, d, n), model.steal(a, b, c, d, n));
            case 17 -> due("night", x.night(), model.night());
            case 18 -> due("look", x.look(a, b), model.look(a, b));
            default -> due("room", x.room(a, b), model.room(a, b));
        }
    }

    private void ask(int kind) {
        int half = from(0, 1);
        int what = from(0, 4);
        int days = any(2) == 0 ? from(0, 30) : any(4);
        int n = any(2) == 0 ? from(0, 40) : any(3);
        int iced = any(4) == 0 ? from(1, 18) : 1 + any(3);
        switch (kind) {
            case 20 -> due("most", x.most(half), model.most(half));
            case 21 -> due("lowest", x.lowest(half), model.lowest(half));
            case 22 -> due("highest", x.highest(half), model.highest(half));
            case 23 -> due("level", x.level(half), model.level(half));
            case 24 -> due("lasting " + days + " " + n, x.lasting(half, days, n), model.lasting(half, days, n));
            case 25 -> due("hiding", x.hiding(half), model.hiding(half));
            case 26 -> due("sure", x.sure(half, iced), model.sure(half, iced));
            case 27 -> due("article", x.article(what), model.article(what));
            case 28 -> due("breach", x.breach(what), model.breach(what));
            default -> due("school", x.school(half, what), model.school(half, what));
        }
    }

    // ---- the way, games, runs, marks

    private void other(int kind) {
        int a = from(0, 12);
        int b = from(0, 12);
        int m = from(1, 4);
        int k = from(0, 4);
        int what = from(0, 3);
        int seed = any(4) == 0 ? from(9985, 9999) : from(0, 9999);
        int many = from(1, 20);
        switch (kind) {
            case 30 -> due("steepest", x.steepest(), model.steepest());
            case 31 -> due("unlike", x.unlike(), model.unlike());
            case 32, 33 -> due("way", x.way(), model.way());
            case 34 -> due("wayAt", x.wayAt(a, k), model.wayAt(a, k));
            case 35 -> due("peace", x.peace(), model.peace());
            case 36 -> due("worked", x.worked(what), model.worked(what));
            case 37 -> due("wins", x.wins(a, b, m, k), model.wins(a, b, m, k));
            case 38 -> due("turns", x.turns(a, b, m, k), model.turns(a, b, m, k));
            case 39 -> due("run " + seed, x.run(seed), model.run(seed));
            case 40 -> due("ran", x.ran(what), model.ran(what));
            case 41 -> {
                due("peaces " + seed + " " + many, x.peaces(seed, many), model.peaces(seed, many));
                dueFraction("peaces");
            }
            case 42 -> due("mark", x.mark(), model.mark());
            default -> {
                due("back", x.back(), model.back());
                takeSize();
            }
        }
    }

    // ---- texts

    private void text(boolean isYard) {
        String text = changed(isYard ? someYard() : someOrders());
        for (int at = 0; at < text.length(); at += 20) {
            int[] five = new int[5];
            for (int i = 0; i < 20; i++) {
                five[i / 4] = five[i / 4] << 8 | (at + i < text.length() ? text.charAt(at + i) : 32);
            }
            Check.due(when + "feed", x.feed(five[0], five[1], five[2], five[3], five[4]), model.feed(five));
            calls++;
        }
        int n = rarely() ? text.length() + from(-3, 60) : text.length();
        String told = (isYard ? "yard(" : "orders(") + n + ") of " + text;
        due(told, isYard ? x.yard(n) : x.orders(n), isYard ? model.yard(n) : model.orders(n));
        Check.due(when + told + ": fault(0)", x.fault(0), model.fault(0));
        Check.due(when + told + ": fault(1)", x.fault(1), model.fault(1));
        calls += 2;
        takeSize();
        if (rarely()) {
            // so that the next text stands at the tape's beginning again
            Check.due(when + "yard(0)", x.yard(0), model.yard(0));
            calls++;
        }
    }

    private void takeSize() {
        wide = x.many(0);
        high = x.many(1);
        Check.due(when + "many(0)", wide, model.many(0));
        Check.due(when + "many(1)", high, model.many(1));
        calls += 2;
    }

    /** At times a token is another one; blanks are more, or none where none must be. */
    private String changed(String text) {
        String[] tokens = text.split(" ");
        int chosen = any(3) == 0 ? any(tokens.length) : -1;
        StringBuilder all = new StringBuilder();
        for (int i = 0; i < tokens.length; i++) {
            String token = i == chosen ? ODD[any(ODD.length)] : tokens[i];
            boolean tight = token.equals(";") || i > 0 && tokens[i - 1].equals(";");
            all.append(tight && any(6) > 0 ? "" : rarely() ? "\n " : " ").append(token);
        }
        return all.length() > 900 ? all.substring(0, 900) : all.toString();
    }

    private String someYard() {
        int w = 2 + 2 * any(3);
        int h = 1 + any(any(3) == 0 ? 6 : 3);
        StringBuilder text = new StringBuilder("wide " + w + " high " + h + " ;");
        int schools = any(4) == 0 ? any(2) : 2;
        for (int school = 0; school < schools; school++) {
            text.append(" school ").append(school == 0 ? "elm" : "oak").append(" hands ").append(any(41)).append(" ;");
        }
        String[] articles = {"no wall above " + any(21), "no build behind " + any(20), "no steal", "no ice above " + any(4)};
        for (String article : articles) {
            text.append(any(2) == 0 ? " " + article + " ;" : "");
        }
        for (int cell = 0; cell < w * h; cell++) {
            heap(text, "snow", "deep", cell % w, cell / w, 99);
            heap(text, "wall", "tall", cell % w, cell / w, 99);
            heap(text, "sun", "by", cell % w, cell / w, 9);
        }
        return text.toString();
    }

    private void heap(StringBuilder text, String word, String before, int a, int b, int most) {
        if (any(3) > 0 && text.length() < 850) {
            int n = any(6) == 0 ? any(most + 1) : any(8);
            text.append(' ').append(word).append(' ').append(a).append(' ').append(b).append(' ').append(before).append(' ')
                .append(n).append(" ;");
        }
    }

    private String someOrders() {
        StringBuilder text = new StringBuilder();
        int open = 0;
        int steps = rarely() ? 28 + any(5) : any(10);
        for (int i = 0; i < steps; i++) {
            String step = someStep(steps > 20);
            text.append(step).append(" ; ");
            open += step.startsWith("when") || step.startsWith("loop") ? 1 : 0;
            if (open > 0 && any(3) == 0) {
                text.append("end ; ");
                open--;
            }
        }
        return text + "end ; ".repeat(open);
    }

    private String cell(int half) {
        return wide / 2 * half + any(wide / 2) + " " + any(high);
    }

    private String someStep(boolean isShort) {
        int half = any(2);
        String compares = " " + "<>=".charAt(any(3)) + " ";
        int n = any(3) == 0 ? any(41) : any(6);
        String by = " by " + Math.max(1, n);
        String[] all = {"night", "stop", "fall " + n, "ice " + cell(half), "when breach", "thaw " + n,
            "loop " + (1 + any(any(3) == 0 ? 99 : 5)), "loop " + (1 + any(30)), "storm " + any(n + 1) + " to " + n,
            "build " + cell(half) + by, "build " + cell(half) + by, "steal " + cell(half) + " from " + cell(1 - half) + by,
            "when day" + compares + any(any(2) == 0 ? 6 : 1000), "when way" + compares + any(30),
            "when wall " + cell(half) + compares + any(any(2) == 0 ? 6 : 100)};
        return all[any(isShort ? 3 : all.length)];
    }

    // ---- all that is told

    private void compareAll() {
        for (int what = 0; what < 10; what++) {
            due("many " + what, x.many(what), model.many(what));
        }
        for (int i = 0; i < 12; i++) {
            int a = any(wide);
            int b = any(high);
            int what = any(6);
            due("cell " + a + " " + b + " " + what, x.cell(a, b, what), model.cell(a, b, what));
        }
        for (int what = 0; what < 5; what++) {
            due("school 0 " + what, x.school(0, what), model.school(0, what));
            due("school 1 " + what, x.school(1, what), model.school(1, what));
        }
        for (int what = 0; what < 3; what++) {
            due("worked " + what, x.worked(what), model.worked(what));
            due("ran " + what, x.ran(what), model.ran(what));
            due("wayAt " + what, x.wayAt(what, what % 2), model.wayAt(what, what % 2));
        }
        dueFraction("at the end");
    }
}
