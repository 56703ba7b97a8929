import java.util.ArrayList;
import java.util.List;
import java.util.function.Consumer;

/** Promise 2: the STATUS is that of the latest call that has one, call by call. */
public final class StatusEdgesTest {
    private static final String YARD = "wide 2 high 2;school a hands 40;school b hands 40;no wall above 0;no build behind 0;"
        + "no steal;no ice above 0;snow 0 0 deep 40;snow 1 0 deep 30;wall 1 1 tall 5;wall 0 1 tall 4;";

    /** Calls that are done, each with what it is called. */
    private static final List<String> DONE_NAMES = new ArrayList<>();
    private static final List<Consumer<SnowForts>> DONE = new ArrayList<>();
    /** Calls that are refused, each with its STATUS. */
    private static final List<Integer> WHY = new ArrayList<>();
    private static final List<Consumer<SnowForts>> REFUSED = new ArrayList<>();

    public static void main(String[] args) {
        listTexts();
        listDays();
        listSums();
        listRefused();
        for (int done = 0; done < DONE.size(); done++) {
            for (int refused = 0; refused < REFUSED.size(); refused++) {
                oneBehindTheOther(done, refused);
            }
        }
        callsWithoutStatus();
        Check.end("StatusEdgesTest");
    }

    private static void done(String name, Consumer<SnowForts> call) {
        DONE_NAMES.add(name);
        DONE.add(call);
    }

    private static void refused(int why, Consumer<SnowForts> call) {
        WHY.add(why);
        REFUSED.add(call);
    }

    private static void listTexts() {
        done("tray", x -> x.tray(3, 0, 1));
        done("write", x -> x.write(0, 0, 1));
        done("read", x -> x.read(0, 0));
        done("pour", x -> x.pour(0, 0, 0, 1, 1));
        done("pour of none", x -> x.pour(0, 5, 0, 5, 0));
        done("yard", x -> x.yard(20));
        done("orders", x -> x.orders(0));
        done("many", x -> x.many(0));
        done("cell", x -> x.cell(0, 0, 0));
        done("school", x -> x.school(1, 4));
        done("article", x -> x.article(2));
        done("breach", x -> x.breach(0));
    }

    private static void listDays() {
        done("fall", x -> x.fall(0));
        done("thaw", x -> x.thaw(0));
        done("build", x -> x.build(0, 0, 1));
        done("ice", x -> x.ice(0, 1));
        done("steal", x -> x.steal(0, 0, 1, 0, 1));
        done("night", x -> x.night());
        done("room", x -> x.room(0, 0));
        done("most", x -> x.most(0));
        done("lowest", x -> x.lowest(0));
        done("highest", x -> x.highest(1));
        done("steepest", x -> x.steepest());
        done("level", x -> x.level(0));
        done("unlike", x -> x.unlike());
        done("lasting", x -> x.lasting(0, 0, 0));
        done("way", x -> x.way());
        done("wayAt", x -> x.wayAt(0, 0));
        done("peace", x -> x.peace());
        done("look", x -> x.look(0, 0));
        done("hiding", x -> x.hiding(0));
        done("sure", x -> x.sure(0, 1));
    }

    private static void listSums() {
        done("works", x -> x.works(0, 0, 4));
        done("works, none", x -> x.works(2, 0, 2));
        done("worked", x -> x.worked(0));
        done("wins", x -> x.wins(3, 4, 1, 1));
        done("wins, none", x -> x.wins(12, 12, 1, 1));
        done("turns", x -> x.turns(3, 4, 1, 1));
        done("turns, none", x -> x.turns(12, 12, 1, 1));
        done("stands", x -> x.stands(1, 1, 1));
        done("mean", x -> x.mean(99, 8, 1));
        done("run", x -> x.run(0));
        done("ran", x -> x.ran(0));
        done("peaces", x -> x.peaces(0, 2));
        done("mark", x -> x.mark());
        done("back", x -> x.back());
    }

    private static void listRefused() {
        refused(1, x -> x.read(4, 0));
        refused(2, x -> x.cell(2, 0, 0));
        refused(3, x -> x.read(3, 0));
        refused(4, x -> x.read(0, 60));
        refused(5, x -> x.many(10));
        refused(6, x -> x.tray(0, 0, -1));
        refused(8, x -> x.wayAt(36, 0));
        refused(9, x -> x.sure(0, 18));
        refused(11, x -> x.pour(0, 0, 2, 0, 0));
    }

    /** An object with which each call of the list can be done. */
    private static SnowForts ready() {
        SnowForts x = Check.forts(YARD);
        Check.row(x, 0, 4, 4, 4, 4, 9);
        Check.row(x, 1, 4, 4, 4, 4);
        x.tray(2, 2, 2);
        x.write(2, 0, 99);
        Check.orders(x, "fall 1;");
        x.run(0);
        x.build(0, 0, 1);
        x.way();
        x.works(0, 0, 2);
        x.mark();
        Check.put(x, "wide 2 high 1;      ");
        return x;
    }

    private static void oneBehindTheOther(int done, int refused) {
        SnowForts x = ready();
        REFUSED.get(refused).accept(x);
        Check.due("refused " + refused, x.status(), WHY.get(refused));
        DONE.get(done).accept(x);
        Check.due(DONE_NAMES.get(done) + " behind " + WHY.get(refused), x.status(), 0);
        REFUSED.get(refused).accept(x);
        boolean isOther = DONE_NAMES.get(done).equals("tray") && WHY.get(refused) == 3
            || DONE_NAMES.get(done).equals("yard") && WHY.get(refused) == 9;
        if (!isOther) {
            Check.due("refused " + refused + " behind " + DONE_NAMES.get(done), x.status(), WHY.get(refused));
        }
    }

    /** status(), fault(), feed(), top(), bottom() have none: also where they answer NONE. */
    private static void callsWithoutStatus() {
        for (int refused = 0; refused < REFUSED.size(); refused++) {
            SnowForts x = ready();
            REFUSED.get(refused).accept(x);
            int why = WHY.get(refused);
            x.fault(0);
            Check.due("fault(0)", x.status(), why);
            x.fault(1);
            Check.due("fault(1)", x.status(), why);
            x.fault(2);
            Check.due("fault(2)", x.status(), why);
            x.top();
            Check.due("top()", x.status(), why);
            x.bottom();
            Check.due("bottom()", x.status(), why);
            Check.due("feed()", x.feed(0, 0, 0, 0, 0), 40);
            Check.due("feed()", x.status(), why);
            for (int i = 0; i < 60; i++) {
                x.feed(i, i, i, i, i);
            }
            Check.due("feed() above 900", x.feed(0, 0, 0, 0, 0), -1);
            Check.due("feed() above 900", x.status(), why);
            Check.due("status() itself", x.status(), why);
        }
    }
}
