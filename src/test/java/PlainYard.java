import java.util.ArrayList;
import java.util.List;

/** A yard as the document tells it, unit by unit: a part of PlainForts. */
final class PlainYard {
    int wide = 2;
    int high = 1;
    int day;
    int melted;
    int ranOff;
    int fell;
    /** Of each school: hands, used today, breaches. */
    final List<int[]> schools = new ArrayList<>();
    /** What each article says, null without one. */
    final Integer[] articles = new Integer[4];
    int[] firstBreach;
    int[][] snow = new int[6][6];
    int[][] wall = new int[6][6];
    int[][] sun = new int[6][6];
    int[][] lastWall = new int[6][6];
    boolean[][] iced = new boolean[6][6];
    boolean[][] known = new boolean[6][6];

    PlainYard copy() {
        PlainYard other = new PlainYard();
        other.wide = wide;
        other.high = high;
        other.day = day;
        other.melted = melted;
        other.ranOff = ranOff;
        other.fell = fell;
        for (int[] school : schools) {
            other.schools.add(school.clone());
        }
        System.arraycopy(articles, 0, other.articles, 0, 4);
        other.firstBreach = firstBreach == null ? null : firstBreach.clone();
        for (int x = 0; x < 6; x++) {
            other.snow[x] = snow[x].clone();
            other.wall[x] = wall[x].clone();
            other.sun[x] = sun[x].clone();
            other.lastWall[x] = lastWall[x].clone();
            other.iced[x] = iced[x].clone();
            other.known[x] = known[x].clone();
        }
        return other;
    }

    boolean isCell(int x, int y) {
        return 0 <= x && x < wide && 0 <= y && y < high;
    }

    int half(int x) {
        return x >= wide - x ? 1 : 0;
    }

    boolean hasSchool(int school) {
        return 0 <= school && school < schools.size();
    }

    boolean isOwned(int x, int y) {
        return isCell(x, y) && hasSchool(half(x));
    }

    int breaches() {
        int all = 0;
        for (int[] school : schools) {
            all += school[2];
        }
        return all;
    }

    /** The cells of a half; of the whole yard with -1. */
    List<int[]> cells(int half) {
        List<int[]> all = new ArrayList<>();
        for (int y = 0; y < high; y++) {
            for (int x = 0; x < wide; x++) {
                if (half < 0 || half(x) == half) {
                    all.add(new int[] {x, y});
                }
            }
        }
        return all;
    }

    int sum(int[][] row, int half) {
        int sum = 0;
        for (int[] at : cells(half)) {
            sum += row[at[0]][at[1]];
        }
        return sum;
    }

    int top(int[] at) {
        return snow[at[0]][at[1]] + wall[at[0]][at[1]];
    }

    int icedOf(int half) {
        int count = 0;
        for (int[] at : cells(half)) {
            count += iced[at[0]][at[1]] ? 1 : 0;
        }
        return count;
    }

    int hiding(int half) {
        int count = 0;
        for (int[] at : cells(half)) {
            count += wall[at[0]][at[1]] > 0 && !known[at[0]][at[1]] ? 1 : 0;
        }
        return count;
    }

    // ---- days

    private boolean unitComes(int x, int y) {
        if (snow[x][y] == 99) {
            ranOff++;
            return false;
        }
        snow[x][y]++;
        return true;
    }

    int fall(int n) {
        int before = ranOff;
        for (int[] at : cells(-1)) {
            for (int i = 0; i < n; i++) {
                fell++;
                unitComes(at[0], at[1]);
            }
        }
        return ranOff - before;
    }

    int thaw(int n) {
        int before = melted;
        for (int[] at : cells(-1)) {
            int x = at[0];
            int y = at[1];
            for (int i = 0; i < n + sun[x][y]; i++) {
                if (snow[x][y] > 0) {
                    snow[x][y]--;
                    melted++;
                } else if (wall[x][y] > 0 && !iced[x][y]) {
                    wall[x][y]--;
                    melted++;
                }
            }
            iced[x][y] = false;
            known[x][y] = false;
        }
        return melted - before;
    }

    private void breach(int school, int article, int x, int y) {
        if (firstBreach == null) {
            firstBreach = new int[] {school, article, day, x, y};
        }
        schools.get(school)[2]++;
    }

    boolean buildOne(int x, int y) {
        int half = half(x);
        int[] school = schools.get(half);
        if (school[1] >= school[0] || snow[x][y] == 0 || wall[x][y] >= 99) {
            return false;
        }
        snow[x][y]--;
        wall[x][y]++;
        if (articles[0] != null && wall[x][y] > lastWall[wide - 1 - x][y] + articles[0]) {
            breach(half, 0, x, y);
        }
        if (articles[1] != null && school[1] >= articles[1]) {
            breach(half, 1, x, y);
        }
        school[1]++;
        known[x][y] = false;
        return true;
    }

    int build(int x, int y, int n) {
        int units = 0;
        while (units < n && buildOne(x, y)) {
            units++;
        }
        return units;
    }

    boolean ice(int x, int y) {
        int[] school = schools.get(half(x));
        if (wall[x][y] == 0 || iced[x][y] || school[0] - school[1] < 2) {
            return false;
        }
        school[1] += 2;
        iced[x][y] = true;
        known[x][y] = false;
        if (articles[3] != null && icedOf(half(x)) > articles[3]) {
            breach(half(x), 3, x, y);
        }
        return true;
    }

    int steal(int x, int y, int fromX, int fromY, int n) {
        if (half(x) == half(fromX)) {
            return 0;
        }
        int[] school = schools.get(half(x));
        int units = 0;
        while (units < n && snow[fromX][fromY] > 0 && (units % 2 == 1 || school[1] < school[0])) {
            if (units % 2 == 0) {
                school[1]++;
                if (articles[2] != null) {
                    breach(half(x), 2, fromX, fromY);
                }
            }
            snow[fromX][fromY]--;
            unitComes(x, y);
            units++;
            known[x][y] = false;
            known[fromX][fromY] = false;
        }
        return units;
    }

    boolean night() {
        if (day == 999) {
            return false;
        }
        day++;
        for (int x = 0; x < 6; x++) {
            lastWall[x] = wall[x].clone();
        }
        for (int[] school : schools) {
            school[1] = 0;
        }
        return true;
    }

    // ---- the treaty

    /** Builds in a copy, with so many hands, as long as there is no new breach. */
    private int builtLawfully(List<int[]> cells, int hands) {
        PlainYard now = copy();
        int units = 0;
        for (int[] at : cells) {
            boolean goesOn = true;
            while (goesOn) {
                PlainYard then = now.copy();
                then.schools.get(half(at[0]))[0] = hands;
                goesOn = then.buildOne(at[0], at[1]) && then.breaches() == now.breaches();
                if (goesOn) {
                    now = then;
                    units++;
                }
            }
        }
        return units;
    }

    int room(int x, int y) {
        return builtLawfully(List.of(new int[] {x, y}), 1000000);
    }

    int most(int school) {
        return builtLawfully(cells(school), schools.get(school)[0]);
    }

    int steepest() {
        int most = 0;
        for (int[] a : cells(-1)) {
            for (int[] b : cells(-1)) {
                if (Math.abs(a[0] - b[0]) + Math.abs(a[1] - b[1]) == 1) {
                    most = Math.max(most, Math.abs(top(a) - top(b)));
                }
            }
        }
        return most;
    }

    /** Tries all tops: each of the half is low or one more, whatever low is; -1 where none can be. */
    int level(int half) {
        int sum = sum(snow, half) + sum(wall, half);
        int best = -1;
        for (int low = 0; low <= 198; low++) {
            int gone = fewestGone(cells(half), 0, low, sum);
            best = gone >= 0 && (best < 0 || gone < best) ? gone : best;
        }
        return best;
    }

    private int fewestGone(List<int[]> cells, int from, int low, int left) {
        int rest = cells.size() - from;
        if (left < low * rest || left > (low + 1) * rest) {
            return -1;
        }
        if (rest == 0) {
            return 0;
        }
        int best = -1;
        int[] at = cells.get(from);
        for (int then = low; then <= low + 1; then++) {
            int snowThen = then - wall[at[0]][at[1]];
            int gone = snowThen < 0 || snowThen > 99 ? -1 : fewestGone(cells, from + 1, low, left - then);
            if (gone >= 0) {
                gone += Math.max(0, top(at) - then);
                best = best < 0 ? gone : Math.min(best, gone);
            }
        }
        return best;
    }

    int unlike() {
        int couples = 0;
        for (int[] at : cells(0)) {
            couples += top(at) == top(new int[] {wide - 1 - at[0], at[1]}) ? 0 : 1;
        }
        return couples;
    }

    int lasting(int school, int days, int n) {
        PlainYard then = copy();
        for (int i = 0; i < days; i++) {
            then.thaw(n);
        }
        return then.sum(then.wall, school);
    }

    // ---- the way over

    /** A way as the first cell's y and the turns behind it: 0 right, 1 down, 2 up, 3 left. */
    private record Way(int cost, String turns) {
        boolean isBetter(Way other) {
            return other == null || cost < other.cost || cost == other.cost && turns.length() < other.turns.length()
                || cost == other.cost && turns.length() == other.turns.length() && turns.compareTo(other.turns) < 0;
        }
    }

    private static int step(int from, int to) {
        return to > from ? to - from : from - to > 3 ? 2 : 0;
    }

    private Way way() {
        Way best = null;
        Way[][] ways = new Way[6][6];
        for (int y = 0; y < high; y++) {
            ways[0][y] = new Way(step(0, top(new int[] {0, y})), "" + y);
        }
        for (int cells = 1; cells <= wide * high; cells++) {
            for (int y = 0; y < high; y++) {
                Way to = ways[wide - 1][y];
                if (to != null) {
                    Way out = new Way(to.cost + step(top(new int[] {wide - 1, y}), 0), to.turns);
                    best = out.isBetter(best) ? out : best;
                }
            }
            ways = longer(ways);
        }
        return best;
    }

    private Way[][] longer(Way[][] ways) {
        Way[][] all = new Way[6][6];
        int[][] turns = {{1, 0}, {0, 1}, {0, -1}, {-1, 0}};
        for (int[] at : cells(-1)) {
            for (int turn = 0; turn < 4 && ways[at[0]][at[1]] != null; turn++) {
                int x = at[0] + turns[turn][0];
                int y = at[1] + turns[turn][1];
                if (isCell(x, y)) {
                    Way old = ways[at[0]][at[1]];
                    Way on = new Way(old.cost + step(top(at), top(new int[] {x, y})), old.turns + turn);
                    all[x][y] = on.isBetter(all[x][y]) ? on : all[x][y];
                }
            }
        }
        return all;
    }

    int cost() {
        return way().cost;
    }

    /** The cells of the way. */
    List<int[]> wayCells() {
        List<int[]> all = new ArrayList<>();
        String turns = way().turns;
        int x = 0;
        int y = turns.charAt(0) - '0';
        all.add(new int[] {x, y});
        for (int i = 1; i < turns.length(); i++) {
            x += turns.charAt(i) == '0' ? 1 : turns.charAt(i) == '3' ? -1 : 0;
            y += turns.charAt(i) == '1' ? 1 : turns.charAt(i) == '2' ? -1 : 0;
            all.add(new int[] {x, y});
        }
        return all;
    }
}
