import java.util.ArrayList;
import java.util.List;
import java.util.Random;

/** Long runs of calls, beside a plain model that does all unit by unit. */
public final class RunsTest {
    private final Random random;
    private SnowForts forts;
    private int wide;
    private int high;
    private int schools;
    private int[] hands;
    private int[] used;
    private int[] broken;
    private int[] articles;
    private int[][] snow;
    private int[][] wall;
    private int[][] sun;
    private int[][] last;
    private boolean[][] iced;
    private boolean[][] known;
    private int day;
    private int melted;
    private int ranOff;
    private int fell;
    private int[] first;
    private int draws;
    private int done;
    private int missed;
    private int built;
    private boolean leftOver;

    private RunsTest(int seed) {
        random = new Random(seed);
    }

    public static void main(String[] args) {
        for (int seed = 0; seed < 400; seed++) {
            RunsTest test = new RunsTest(seed);
            test.makeYard();
            for (int i = 0; i < 25; i++) {
                test.act();
                test.compare("seed " + seed + ", act " + i);
            }
            test.runOrders("seed " + seed);
        }
        Check.end("RunsTest");
    }

    // ---- the model

    private void makeYard() {
        wide = 2 + 2 * random.nextInt(3);
        high = 1 + random.nextInt(4);
        schools = random.nextInt(5) == 0 ? random.nextInt(2) : 2;
        hands = new int[2];
        used = new int[2];
        broken = new int[2];
        articles = new int[] {-1, -1, -1, -1};
        snow = new int[wide][high];
        wall = new int[wide][high];
        sun = new int[wide][high];
        last = new int[wide][high];
        iced = new boolean[wide][high];
        known = new boolean[wide][high];
        StringBuilder text = new StringBuilder("wide " + wide + " high " + high + ";");
        for (int school = 0; school < schools; school++) {
            hands[school] = random.nextInt(41);
            text.append("school ").append((char) ('a' + school)).append(" hands ").append(hands[school]).append(";\n");
        }
        String[] words = {"no wall above ", "no build behind ", "no steal", "no ice above "};
        for (int kind = 0; kind < 4; kind++) {
            if (random.nextBoolean()) {
                articles[kind] = kind == 2 ? 0 : random.nextInt(kind == 3 ? 4 : 12);
                text.append(words[kind]).append(kind == 2 ? "" : "" + articles[kind]).append(';');
            }
        }
        for (int x = 0; x < wide; x++) {
            for (int y = 0; y < high; y++) {
                tell(text, "snow", "deep", x, y, snow, random.nextInt(3) == 0 ? 60 + random.nextInt(40) : random.nextInt(9));
                tell(text, "wall", "tall", x, y, wall, random.nextInt(6) == 0 ? 90 + random.nextInt(10) : random.nextInt(5));
                if (text.length() < 800) {
                    tell(text, "sun", "by", x, y, sun, random.nextInt(10));
                }
                last[x][y] = wall[x][y];
            }
        }
        forts = Check.forts(text.toString());
    }

    private void tell(StringBuilder text, String word, String before, int x, int y, int[][] row, int value) {
        if (random.nextInt(3) > 0 && text.length() < 860) {
            row[x][y] = value;
            text.append(word).append(' ').append(x).append(' ').append(y).append(' ').append(before).append(' ')
                .append(value).append(';');
        }
    }

    private int half(int x) {
        return 2 * x < wide ? 0 : 1;
    }

    private boolean owned(int x) {
        return half(x) < schools;
    }

    private void breach(int school, int article, int x, int y) {
        if (first == null) {
            first = new int[] {school, article, day, x, y};
        }
        broken[school]++;
    }

    private int fallModel(int n) {
        int over = 0;
        for (int x = 0; x < wide; x++) {
            for (int y = 0; y < high; y++) {
                for (int i = 0; i < n; i++) {
                    fell++;
                    over += gains(x, y);
                }
            }
        }
        return over;
    }

    private int gains(int x, int y) {
        if (snow[x][y] == 99) {
            ranOff++;
            return 1;
        }
        snow[x][y]++;
        return 0;
    }

    private int thawModel(int n) {
        int before = melted;
        for (int x = 0; x < wide; x++) {
            for (int y = 0; y < high; y++) {
                for (int i = 0; i < n + sun[x][y]; i++) {
                    if (snow[x][y] > 0) {
                        snow[x][y]--;
                        melted++;
                    } else if (wall[x][y] > 0 && !iced[x][y]) {
                        wall[x][y]--;
                        melted++;
                    }
                }
                iced[x][y] = false;
                known[x][y] = false;
            }
        }
        return melted - before;
    }

    private boolean isLawful(int x, int y) {
        int school = half(x);
        return (articles[0] < 0 || wall[x][y] + 1 <= last[wide - 1 - x][y] + articles[0])
            && (articles[1] < 0 || used[school] < articles[1]);
    }

    private int buildModel(int x, int y, int n) {
        int school = half(x);
        int units = 0;
        while (units < n && used[school] < hands[school] && snow[x][y] > 0 && wall[x][y] < 99) {
            if (articles[0] >= 0 && wall[x][y] + 1 > last[wide - 1 - x][y] + articles[0]) {
                breach(school, 0, x, y);
            }
            if (articles[1] >= 0 && used[school] >= articles[1]) {
                breach(school, 1, x, y);
            }
            snow[x][y]--;
            wall[x][y]++;
            used[school]++;
            known[x][y] = false;
            units++;
        }
        return units;
    }

    private int icedOf(int school) {
        int count = 0;
        for (int x = 0; x < wide; x++) {
            for (int y = 0; y < high; y++) {
                count += half(x) == school && iced[x][y] ? 1 : 0;
            }
        }
        return count;
    }

    private boolean iceModel(int x, int y) {
        int school = half(x);
        if (wall[x][y] == 0 || iced[x][y] || used[school] + 2 > hands[school]) {
            return false;
        }
        used[school] += 2;
        iced[x][y] = true;
        known[x][y] = false;
        if (articles[3] >= 0 && icedOf(school) > articles[3]) {
            breach(school, 3, x, y);
        }
        return true;
    }

    private int stealModel(int x, int y, int a, int b, int n) {
        int school = half(x);
        int units = 0;
        while (units < n && used[school] < hands[school] && snow[a][b] > 0) {
            used[school]++;
            if (articles[2] >= 0) {
                breach(school, 2, a, b);
            }
            for (int i = 0; i < 2 && units < n && snow[a][b] > 0; i++) {
                snow[a][b]--;
                gains(x, y);
                units++;
            }
            known[x][y] = false;
            known[a][b] = false;
        }
        return units;
    }

    private boolean nightModel() {
        if (day == 999) {
            return false;
        }
        day++;
        used = new int[2];
        for (int x = 0; x < wide; x++) {
            last[x] = wall[x].clone();
        }
        return true;
    }

    // ---- calls on both

    private void act() {
        int x = random.nextInt(wide);
        int y = random.nextInt(high);
        int a = random.nextInt(wide);
        int b = random.nextInt(high);
        int n = 1 + random.nextInt(random.nextBoolean() ? 4 : 40);
        String at = "(" + x + ", " + y + ")";
        switch (random.nextInt(9)) {
            case 0:
                Check.due("fall", forts, forts.fall(n), fallModel(n), 0);
                break;
            case 1:
                Check.due("thaw", forts, forts.thaw(n / 4), thawModel(n / 4), 0);
                break;
            case 2:
            case 3:
            case 4:
                int units = owned(x) ? buildModel(x, y, n) : -1;
                Check.due("build" + at, forts, forts.build(x, y, n), units > 0 ? units : -1, units < 0 ? 2 : units == 0 ? 9 : 0);
                break;
            case 5:
                boolean may = owned(x) && iceModel(x, y);
                Check.due("ice" + at, forts, forts.ice(x, y), may, may ? 0 : owned(x) ? 9 : 2);
                break;
            case 6:
                int taken = !owned(x) ? -1 : half(a) == half(x) ? 0 : stealModel(x, y, a, b, n);
                Check.due("steal" + at, forts, forts.steal(x, y, a, b, n), taken > 0 ? taken : -1,
                    taken < 0 ? 2 : taken == 0 ? 9 : 0);
                break;
            case 7:
                nightModel();
                Check.due("night", forts, forts.night(), day, 0);
                break;
            default:
                known[x][y] = true;
                Check.due("look" + at, forts, forts.look(x, y), iced[x][y] ? 1 : 0, 0);
                break;
        }
    }

    private int roomModel(int x, int y) {
        int[] keptHands = hands;
        int[] keptUsed = used;
        int keptSnow = snow[x][y];
        int keptWall = wall[x][y];
        used = used.clone();
        int units = 0;
        while (snow[x][y] > 0 && wall[x][y] < 99 && isLawful(x, y)) {
            snow[x][y]--;
            wall[x][y]++;
            used[half(x)]++;
            units++;
        }
        hands = keptHands;
        used = keptUsed;
        snow[x][y] = keptSnow;
        wall[x][y] = keptWall;
        return units;
    }

    private int mostModel(int school) {
        int[] keptUsed = used.clone();
        int[][] keptSnow = copy(snow);
        int[][] keptWall = copy(wall);
        int units = 0;
        for (int x = 0; x < wide; x++) {
            for (int y = 0; y < high; y++) {
                while (half(x) == school && snow[x][y] > 0 && wall[x][y] < 99 && isLawful(x, y)
                    && used[school] < hands[school]) {
                    snow[x][y]--;
                    wall[x][y]++;
                    used[school]++;
                    units++;
                }
            }
        }
        used = keptUsed;
        snow = keptSnow;
        wall = keptWall;
        return units;
    }

    private static int[][] copy(int[][] rows) {
        int[][] all = new int[rows.length][];
        for (int i = 0; i < rows.length; i++) {
            all[i] = rows[i].clone();
        }
        return all;
    }

    private void compare(String when) {
        int[] sums = new int[2];
        int[] walls = new int[2];
        int[] hiding = new int[2];
        int[] low = {999, 999};
        int[] top = {0, 0};
        int steepest = 0;
        int unlike = 0;
        for (int x = 0; x < wide; x++) {
            for (int y = 0; y < high; y++) {
                int[] told = {snow[x][y], wall[x][y], sun[x][y], last[x][y], half(x), iced[x][y] ? 1 : 0};
                for (int what = 0; what < 6; what++) {
                    Check.due(when + ": cell(" + x + ", " + y + ", " + what + ")", forts.cell(x, y, what), told[what]);
                }
                int height = snow[x][y] + wall[x][y];
                Check.due(when + ": room(" + x + ", " + y + ")", forts.room(x, y), owned(x) ? roomModel(x, y) : -1);
                sums[half(x)] += snow[x][y];
                walls[half(x)] += wall[x][y];
                hiding[half(x)] += wall[x][y] > 0 && !known[x][y] ? 1 : 0;
                low[half(x)] = Math.min(low[half(x)], height);
                top[half(x)] = Math.max(top[half(x)], height);
                unlike += height != snow[wide - 1 - x][y] + wall[wide - 1 - x][y] ? 1 : 0;
                for (int a = 0; a < wide; a++) {
                    for (int b = 0; b < high; b++) {
                        if (Math.abs(a - x) + Math.abs(b - y) == 1) {
                            steepest = Math.max(steepest, height - snow[a][b] - wall[a][b]);
                        }
                    }
                }
            }
        }
        int[] told = {wide, high, schools, day, broken[0] + broken[1], sums[0] + sums[1], walls[0] + walls[1], melted,
            ranOff, fell};
        for (int what = 0; what < told.length; what++) {
            Check.due(when + ": many(" + what + ")", forts.many(what), told[what]);
        }
        for (int half = 0; half < 2; half++) {
            Check.due(when + ": hiding", forts.hiding(half), hiding[half]);
            Check.due(when + ": lowest", forts.lowest(half), low[half]);
            Check.due(when + ": highest", forts.highest(half), top[half]);
            Check.due(when + ": most", forts.most(half), half < schools ? mostModel(half) : -1);
            int[] school = {hands[half], used[half], broken[half], icedOf(half), walls[half]};
            for (int what = 0; what < 5; what++) {
                Check.due(when + ": school", forts.school(half, what), half < schools ? school[what] : -1);
            }
        }
        Check.due(when + ": steepest", forts.steepest(), steepest);
        Check.due(when + ": unlike", forts.unlike(), unlike / 2);
        for (int what = 0; what < 5; what++) {
            Check.due(when + ": breach", forts.breach(what), first == null ? -1 : first[what]);
        }
    }

    // ---- orders

    private interface Step {
        /** Whether it goes on. */
        boolean run();
    }

    private int steps;

    private int draw(int n) {
        draws = (int) ((draws * 2741L + 9337) % 65536);
        return draws / 8 % n;
    }

    private List<Step> makeSteps(StringBuilder text, int depth, int many) {
        List<Step> all = new ArrayList<>();
        for (int i = 0; i < many && steps < 30 && text.length() < 240; i++) {
            steps++;
            Step step = makeStep(text, depth);
            all.add(() -> {
                if (done == 300) {
                    leftOver = true;
                    return false;
                }
                done++;
                return step.run();
            });
        }
        return all;
    }

    private static boolean runAll(List<Step> all) {
        for (Step step : all) {
            if (!step.run()) {
                return false;
            }
        }
        return true;
    }

    private int ownedColumn() {
        int x = random.nextInt(wide);
        return owned(x) ? x : 0;
    }

    private Step makeStep(StringBuilder text, int depth) {
        int x = ownedColumn();
        int y = random.nextInt(high);
        int n = 1 + random.nextInt(9);
        switch (random.nextInt(schools == 0 ? 5 : depth < 3 ? 10 : 8)) {
            case 0:
                text.append("fall ").append(n).append(';');
                return () -> fallModel(n) >= 0;
            case 1:
                text.append("thaw ").append(n).append("; ");
                return () -> thawModel(n) >= 0;
            case 2:
                text.append("storm ").append(n).append(" to ").append(n + 7).append(';');
                return () -> fallModel(n + draw(8)) >= 0;
            case 3:
                text.append("night;");
                return () -> {
                    missed += nightModel() ? 0 : 1;
                    return true;
                };
            case 4:
                if (random.nextInt(6) > 0) {
                    text.append("fall 1;");
                    return () -> fallModel(1) >= 0;
                }
                text.append("stop;");
                return () -> false;
            case 5:
                text.append("build ").append(x).append(' ').append(y).append(" by ").append(n).append(';');
                return () -> {
                    int units = buildModel(x, y, n);
                    built += units;
                    missed += units == 0 ? 1 : 0;
                    return true;
                };
            case 6:
                text.append("ice ").append(x).append(' ').append(y).append(";\n");
                return () -> {
                    missed += iceModel(x, y) ? 0 : 1;
                    return true;
                };
            case 7:
                int a = wide - 1 - x;
                text.append("steal ").append(x).append(' ').append(y).append(" from ").append(a).append(" 0 by ").append(n)
                    .append(';');
                return () -> {
                    missed += stealModel(x, y, a, 0, n) == 0 ? 1 : 0;
                    return true;
                };
            case 8:
                int often = 1 + random.nextInt(random.nextInt(5) == 0 ? 99 : 5);
                text.append("loop ").append(often).append(';');
                List<Step> body = makeSteps(text, depth + 1, random.nextInt(4));
                text.append("end;");
                return () -> {
                    boolean on = true;
                    for (int i = 0; i < often && on; i++) {
                        on = runAll(body);
                    }
                    return on;
                };
            default:
                return makeWhen(text, depth, x, y);
        }
    }

    private Step makeWhen(StringBuilder text, int depth, int x, int y) {
        int kind = random.nextInt(3);
        int sign = random.nextInt(3) - 1;
        int limit = random.nextInt(6);
        text.append(kind == 0 ? "when breach;" : kind == 1 ? "when day " : "when wall " + x + " " + y);
        if (kind > 0) {
            text.append("<=>".charAt(sign + 1)).append(limit).append(';');
        }
        List<Step> body = makeSteps(text, depth + 1, random.nextInt(4));
        text.append("end;");
        return () -> {
            int value = kind == 1 ? day : wall[x][y];
            boolean holds = kind == 0 ? first != null : Integer.compare(value, limit) == sign;
            return !holds || runAll(body);
        };
    }

    private void runOrders(String when) {
        for (int round = 0; round < 3; round++) {
            StringBuilder text = new StringBuilder();
            steps = 0;
            List<Step> all = makeSteps(text, 0, 1 + random.nextInt(12));
            String told = when + ": " + text;
            Check.due(told, forts, Check.orders(forts, text.toString()), steps, 0);
            draws = random.nextInt(10000);
            done = 0;
            missed = 0;
            built = 0;
            leftOver = false;
            int before = broken[0] + broken[1];
            int seed = draws;
            runAll(all);
            Check.due(told + ": run(" + seed + ")", forts, forts.run(seed), done, 0);
            int[] ran = {missed, built, broken[0] + broken[1] - before, leftOver ? 1 : 0};
            for (int what = 0; what < 4; what++) {
                Check.due(told + ": ran(" + what + ")", forts.ran(what), ran[what]);
            }
            compare(told);
        }
    }
}
