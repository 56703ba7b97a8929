/** Promises 24 to 31: what the treaty leaves, and what the snow looks like. */
public final class TreatyTest {
    public static void main(String[] args) {
        roomIsLeft();
        mostIsBuilt();
        topsAreTold();
        steepestIsTold();
        levelIsTold();
        levelByTrials();
        unlikeIsTold();
        lastingIsTold();
        lastingByTrials();
        Check.end("TreatyTest");
    }

    private static void roomIsLeft() {
        SnowForts x = Check.forts("wide 4 high 1;school a hands 1;snow 0 0 deep 9;snow 1 0 deep 50;wall 1 0 tall 90;"
            + "snow 2 0 deep 3;");
        Check.due("by its snow", x, x.room(0, 0), 9, 0);
        Check.due("to 99", x, x.room(1, 0), 9, 0);
        Check.due("a half without a school", x, x.room(2, 0), -1, 2);
        Check.due("no such cell", x, x.room(0, 1), -1, 2);
        x = Check.forts("wide 4 high 1;school a hands 40;no build behind 7;no wall above 4;snow 0 0 deep 9;snow 1 0 deep 9;"
            + "wall 2 0 tall 9;wall 1 0 tall 1;");
        Check.due("by the other's wall", x, x.room(0, 0), 4, 0);
        Check.due("by the hands", x, x.room(1, 0), 7, 0);
        x.build(0, 0, 6);
        Check.due("one hand is left", x, x.room(1, 0), 1, 0);
        Check.due("above already", x, x.room(0, 0), 0, 0);
        x.build(1, 0, 3);
        Check.due("behind already", x, x.room(1, 0), 0, 0);
    }

    private static void mostIsBuilt() {
        SnowForts x = Check.forts("wide 4 high 1;school a hands 9;school b hands 40;no build behind 20;no wall above 6;"
            + "snow 0 0 deep 9;snow 1 0 deep 2;wall 2 0 tall 1;snow 2 0 deep 30;snow 3 0 deep 30;");
        Check.due("most(0)", x, x.most(0), 8, 0);
        Check.due("most(1)", x, x.most(1), 11, 0);
        Check.due("most(2)", x, x.most(2), -1, 2);
        Check.due("most(-1)", x, x.most(-1), -1, 2);
        x.build(0, 0, 4);
        Check.due("by the hands that are left", x, x.most(0), 4, 0);
        x.build(0, 0, 5);
        Check.due("no hands", x, x.most(0), 0, 0);
        x = Check.forts("wide 2 high 1;school a hands 40;no build behind 20;snow 0 0 deep 99;");
        Check.due("by the treaty's hands", x, x.most(0), 20, 0);
        x.build(0, 0, 30);
        Check.due("behind already", x, x.most(0), 0, 0);
        x = Check.forts("wide 2 high 1;school a hands 40;snow 0 0 deep 99;");
        Check.due("without a treaty", x, x.most(0), 40, 0);
        Check.due("one school alone", x, x.most(1), -1, 2);
    }

    private static void topsAreTold() {
        SnowForts x = Check.forts("wide 4 high 2;snow 0 0 deep 9;wall 0 0 tall 9;wall 1 0 tall 3;snow 0 1 deep 4;"
            + "snow 1 1 deep 19;snow 2 1 deep 99;wall 2 1 tall 99;");
        Check.due("lowest(0)", x, x.lowest(0), 3, 0);
        Check.due("lowest(1)", x, x.lowest(1), 0, 0);
        Check.due("highest(0)", x, x.highest(0), 19, 0);
        Check.due("highest(1)", x, x.highest(1), 198, 0);
        for (int half = -1; half <= 2; half += 3) {
            Check.due("lowest(" + half + ")", x, x.lowest(half), -1, 5);
            Check.due("highest(" + half + ")", x, x.highest(half), -1, 5);
            Check.due("level(" + half + ")", x, x.level(half), -1, 5);
            Check.due("hiding(" + half + ")", x, x.hiding(half), -1, 5);
        }
    }

    private static void steepestIsTold() {
        Check.due("a new one", new SnowForts().steepest(), 0);
        SnowForts x = Check.forts("wide 2 high 2;snow 0 0 deep 9;wall 1 1 tall 7;");
        Check.due("steepest()", x, x.steepest(), 9, 0);
        x = Check.forts("wide 2 high 2;snow 0 0 deep 9;snow 1 0 deep 9;wall 1 1 tall 20;snow 0 1 deep 12;");
        Check.due("one above another", x, x.steepest(), 11, 0);
        x = Check.forts("wide 2 high 2;snow 0 0 deep 9;snow 0 1 deep 8;wall 1 1 tall 20;snow 1 0 deep 14;");
        Check.due("one beside another", x, x.steepest(), 12, 0);
        x = Check.forts("wide 2 high 2;snow 0 0 deep 50;snow 0 1 deep 50;snow 1 1 deep 50;snow 1 0 deep 50;");
        Check.due("none is outside", x, x.steepest(), 0, 0);
    }

    private static void levelIsTold() {
        SnowForts x = Check.forts("wide 6 high 1;snow 0 0 deep 10;snow 1 0 deep 1;wall 3 0 tall 2;snow 4 0 deep 1;");
        Check.due("level(0)", x, x.level(0), 6, 0);
        Check.due("level(1)", x, x.level(1), -1, 9);
        x = Check.forts("wide 4 high 1;snow 0 0 deep 99;wall 0 0 tall 99;snow 2 0 deep 99;wall 3 0 tall 50;");
        Check.due("a wall that stands", x, x.level(0), 99, 0);
        Check.due("level(1)", x, x.level(1), 24, 0);
        x = Check.forts("wide 2 high 2;wall 0 0 tall 99;wall 0 1 tall 98;wall 1 0 tall 99;wall 1 1 tall 97;");
        Check.due("unlike by 1", x, x.level(0), 0, 0);
        Check.due("unlike by 2", x, x.level(1), -1, 9);
        x = Check.forts("wide 2 high 2;wall 0 0 tall 9;snow 0 0 deep 2;snow 0 1 deep 8;snow 1 0 deep 3;");
        Check.due("a wall that must be the higher one", x, x.level(0), 1, 0);
        Check.due("three units by two cells", x, x.level(1), 1, 0);
        // 99 and 198 are level by 148, 149, but no snow is deeper than 99
        x = Check.forts("wide 2 high 2;snow 0 0 deep 99;snow 0 1 deep 99;wall 0 1 tall 99;");
        Check.due("more than 99", x, x.level(0), -1, 9);
        Check.due("a half of no snow", x, x.level(1), 0, 0);
        Check.due("a half of one cell", Check.forts("wide 2 high 1;snow 0 0 deep 7;wall 0 0 tall 9;").level(0), 0);
    }

    /** The fewest units by trying all that three cells can become. */
    private static int levelOf(int[] snow, int[] wall) {
        int sum = snow[0] + snow[1] + snow[2];
        int best = -1;
        for (int a = 0; a <= Math.min(99, sum); a++) {
            for (int b = 0; b <= Math.min(99, sum - a); b++) {
                int c = sum - a - b;
                int ta = a + wall[0];
                int tb = b + wall[1];
                int tc = c + wall[2];
                if (c > 99 || Math.abs(ta - tb) > 1 || Math.abs(ta - tc) > 1 || Math.abs(tb - tc) > 1) {
                    continue;
                }
                int moved = (Math.abs(a - snow[0]) + Math.abs(b - snow[1]) + Math.abs(c - snow[2])) / 2;
                best = best < 0 ? moved : Math.min(best, moved);
            }
        }
        return best;
    }

    private static void levelByTrials() {
        java.util.Random random = new java.util.Random(7);
        for (int trial = 0; trial < 1500; trial++) {
            int high = trial % 3 == 0 ? 12 : trial % 3 == 1 ? 4 : 100;
            int[] snow = new int[3];
            int[] wall = new int[3];
            StringBuilder text = new StringBuilder("wide 6 high 1;");
            for (int cell = 0; cell < 3; cell++) {
                snow[cell] = random.nextInt(high);
                wall[cell] = random.nextInt(high) * random.nextInt(2);
                text.append("snow ").append(cell).append(" 0 deep ").append(snow[cell]).append(';');
                text.append("wall ").append(cell).append(" 0 tall ").append(wall[cell]).append(';');
            }
            SnowForts x = Check.forts(text.toString());
            int due = levelOf(snow, wall);
            Check.due("level(0) of " + text, x, x.level(0), due, due < 0 ? 9 : 0);
        }
    }

    private static void unlikeIsTold() {
        SnowForts x = Check.forts("wide 4 high 2;snow 0 0 deep 9;wall 3 0 tall 9;wall 1 0 tall 3;snow 1 1 deep 1;");
        Check.due("unlike()", x, x.unlike(), 2, 0);
        Check.due("a new one", new SnowForts().unlike(), 0);
        x.fall(1);
        Check.due("unlike()", x, x.unlike(), 2, 0);
    }

    private static void lastingIsTold() {
        SnowForts x = Check.forts("wide 4 high 1;school a hands 9;snow 0 0 deep 3;wall 0 0 tall 9;sun 0 0 by 1;"
            + "wall 1 0 tall 5;wall 2 0 tall 50;");
        Check.due("no days", x, x.lasting(0, 0, 40), 14, 0);
        Check.due("the sun alone", x, x.lasting(0, 5, 0), 7 + 5, 0);
        Check.due("thaws", x, x.lasting(0, 2, 2), 6 + 1, 0);
        Check.due("all", x, x.lasting(0, 30, 40), 0, 0);
        x.ice(0, 0);
        Check.due("ice for one thaw", x, x.lasting(0, 1, 2), 9 + 3, 0);
        Check.due("ice for one thaw, its snow melts", x, x.lasting(0, 2, 2), 6 + 1, 0);
        Check.due("ice that spares what is left", x, x.lasting(0, 1, 40), 9, 0);
        Check.due("nothing has changed", x.many(6) + x.cell(0, 0, 5), 65);
        Check.due("no such school", x, x.lasting(1, 31, 0), -1, 2);
        Check.due("no such school", x, x.lasting(-1, 1, 0), -1, 2);
        Check.due("days -1", x, x.lasting(0, -1, 0), -1, 5);
        Check.due("days 31", x, x.lasting(0, 31, 0), -1, 5);
        Check.due("thaws of 41", x, x.lasting(0, 1, 41), -1, 5);
        Check.due("thaws of -1", x, x.lasting(0, 1, -1), -1, 5);
    }

    /** The fewest walls by all rows of thaws, done on the object itself and taken back. */
    private static int fewestWalls(SnowForts x, int days, int n) {
        if (days == 0) {
            return x.school(0, 4);
        }
        int fewest = 9999;
        for (int thaw = 0; thaw <= n; thaw++) {
            x.mark();
            x.thaw(thaw);
            fewest = Math.min(fewest, fewestWalls(x, days - 1, n));
            x.back();
        }
        return fewest;
    }

    private static void lastingByTrials() {
        java.util.Random random = new java.util.Random(8);
        for (int trial = 0; trial < 200; trial++) {
            StringBuilder text = new StringBuilder("wide 4 high 2;school a hands 40;");
            for (int cell = 0; cell < 4; cell++) {
                String at = cell % 2 + " " + cell / 2;
                text.append("snow ").append(at).append(" deep ").append(random.nextInt(6)).append(';');
                text.append("wall ").append(at).append(" tall ").append(random.nextInt(12)).append(';');
                text.append("sun ").append(at).append(" by ").append(random.nextInt(3)).append(';');
            }
            SnowForts x = Check.forts(text.toString());
            x.ice(random.nextInt(2), random.nextInt(2));
            int days = random.nextInt(4);
            int n = random.nextInt(4);
            int due = fewestWalls(x, days, n);
            Check.due("lasting(0, " + days + ", " + n + ") of " + text, x, x.lasting(0, days, n), due, 0);
        }
    }
}
