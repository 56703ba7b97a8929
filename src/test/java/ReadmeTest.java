/** What README.md tells: its example call by call, and how each STATUS comes about. */
public final class ReadmeTest {
    private static final String YARD = "wide 4 high 1;\n"
        + "school oak hands 6; school elm hands 9;\n"
        + "snow 0 0 deep 8; snow 3 0 deep 5;\n"
        + "wall 1 0 tall 2; sun 1 0 by 1;\n"
        + "no wall above 3; no build behind 5; no steal; no ice above 0;\n";
    private static final String ORDERS = "loop 3; storm 0 to 4;\n"
        + "when wall 0 0 < 9; build 0 0 by 2; end;\n"
        + "night; end;\n";

    public static void main(String[] args) {
        theExample();
        eachStatus();
        Check.end("ReadmeTest");
    }

    private static void theExample() {
        SnowForts forts = new SnowForts();
        Check.due("yard", forts.yard(put(forts, YARD)), 4);
        Check.due("room", forts.room(0, 0), 3);
        Check.due("most", forts.most(0), 3);
        Check.due("build", forts.build(0, 0, 4), 4);
        Check.due("breach: the article", forts.breach(1), 0);
        Check.due("ice", forts.ice(1, 0), true);
        Check.due("breaches", forts.many(4), 2);
        Check.due("ice again", forts, forts.ice(1, 0), false, 9);
        Check.due("way", forts.way(), 17);
        Check.due("the way's last cell", forts.wayAt(3, 0), 3);
        Check.due("thaw", forts.thaw(2), 4);
        Check.due("night", forts.night(), 1);
        Check.due("orders", forts.orders(put(forts, ORDERS)), 5);
        Check.due("mark", forts.mark(), 1);
        Check.due("run", forts.run(7), 13);
        Check.due("MISSED", forts.ran(0), 1);
        Check.due("units built", forts.ran(1), 3);
        Check.due("day", forts.many(3), 4);
        Check.due("back", forts.back(), 0);
        Check.due("day again", forts.many(3), 1);
        Check.due("peaces", forts.peaces(0, 20), true);
        Check.due("top", forts.top(), 0);
        Check.due("bottom", forts.bottom(), 1);
        Check.due("a text with a FAULT", forts, forts.orders(put(forts, "night; fall 41;")), -1, 10);
        Check.due("its FAULT", forts.fault(0), 4);
        Check.due("its place", forts.fault(1), 12);
    }

    /** README.md's way to the tape: twenty bytes a call, the highest of each int first, blanks behind the text. */
    static int put(SnowForts forts, String text) {
        int[] five = new int[5];
        for (int from = 0; from < text.length(); from += 20) {
            for (int i = 0; i < 20; i++) {
                char next = from + i < text.length() ? text.charAt(from + i) : ' ';
                five[i / 4] = five[i / 4] << 8 | next;
            }
            forts.feed(five[0], five[1], five[2], five[3], five[4]);
        }
        return text.length();
    }

    private static void eachStatus() {
        SnowForts forts = new SnowForts();
        Check.due("1", forts, forts.tray(4, 0, 1), false, 1);
        Check.due("1: the sort", forts, forts.tray(0, 4, 1), false, 1);
        Check.due("2", forts, forts.cell(2, 0, 0), -1, 2);
        Check.due("2: no SCHOOL", forts, forts.build(0, 0, 1), -1, 2);
        Check.due("3", forts, forts.read(0, 0), -1, 3);
        Check.due("0", forts, forts.tray(0, 0, 3), true, 0);
        Check.due("4", forts, forts.read(0, 3), -1, 4);
        Check.due("4: too few numbers", forts, forts.stands(1, 1, 0), false, 4);
        Check.due("5", forts, forts.fall(41), -1, 5);
        Check.due("6", forts, forts.tray(0, 0, -1), false, 6);
        for (int i = 1; i <= 3; i++) {
            Check.due("mark", forts, forts.mark(), i, 0);
        }
        Check.due("7", forts, forts.mark(), -1, 7);
        Check.due("8", forts, forts.run(0), -1, 8);
        Check.due("9", forts, forts.sure(0, 1), -1, 9);
        Check.due("10", forts, forts.yard(0), -1, 10);
        Check.due("11: a TRAY more", forts, forts.tray(1, 1, 3), true, 0);
        Check.due("11", forts, forts.pour(0, 0, 1, 0, 1), false, 11);
    }
}
