import java.util.function.Consumer;
import java.util.function.Predicate;
import java.util.function.ToLongFunction;

/**
 * Two objects with the same past. One of them is asked what must be refused; behind it both are asked all that can be
 * asked, also by runs, by marks taken back and by the tape, and must answer alike: nothing but STATUS has changed.
 */
final class Twins {
    private static final String YARD = "wide 2 high 2;school a hands 12;school b hands 12;no wall above 3;no build behind 6;"
        + "no steal;no ice above 0;snow 0 0 deep 40;snow 1 0 deep 30;wall 1 1 tall 5;wall 0 1 tall 4;sun 0 1 by 1;";
    private static final String ORDERS = "storm 1 to 9;build 0 0 by 3;loop 2;steal 1 1 from 0 0 by 3;night;end;ice 0 1;";
    /** What is on the tape: a yard, so that it tells that it is still there. */
    private static final String TAPE = "wide 4 high 2;snow 3 1 deep 7;";

    private Twins() {
    }

    /** An object with something in all that can have something. */
    static SnowForts full() {
        SnowForts x = Check.forts(YARD);
        x.tray(0, 3, 5);
        x.tray(1, 0, 2);
        x.tray(2, 2, 0);
        long[] row = {4, 4, 4, 4, 9};
        for (int i = 0; i < 5; i++) {
            x.write(0, i, row[i]);
        }
        x.write(1, 0, 200);
        x.write(1, 1, 3);
        x.mean(5, 2, 0);
        x.works(0, 0, 4);
        Check.orders(x, ORDERS);
        x.run(11);
        x.way();
        x.ice(1, 1);
        x.look(1, 1);
        x.mark();
        x.look(0, 1);
        x.fall(2);
        x.build(1, 0, 4);
        Check.put(x, TAPE);
        return x;
    }

    /** The whole of what an object tells, its changes by a run, by marks taken back, by its tape. */
    static String allOf(SnowForts x) {
        StringBuilder all = new StringBuilder();
        told(x, all);
        traysOf(x, all);
        all.append("\nrun ").append(x.run(5)).append(' ').append(x.status());
        told(x, all);
        for (int i = 0; i < 4; i++) {
            all.append("\nback ").append(x.back()).append(' ').append(x.status());
            told(x, all);
            all.append("\nrun ").append(x.run(i)).append(' ').append(x.status()).append(' ').append(x.many(5));
        }
        for (int i = 1; i <= 4; i++) {
            all.append("\nmark ").append(x.mark());
        }
        all.append("\ntape ").append(x.feed(0x20202020, 0x20202020, 0x20202020, 0x20202020, 0x20202020));
        all.append(' ').append(x.yard(TAPE.length())).append(' ').append(x.status()).append(' ').append(x.cell(3, 1, 0));
        return all.toString();
    }

    private static void told(SnowForts x, StringBuilder all) {
        all.append("\nfraction ").append(x.top()).append(' ').append(x.bottom());
        all.append("\nfault ").append(x.fault(0)).append(' ').append(x.fault(1)).append("\nmany");
        for (int what = 0; what < 10; what++) {
            all.append(' ').append(x.many(what));
        }
        all.append("\ncells");
        for (int cell = 0; cell < 4; cell++) {
            for (int what = 0; what < 6; what++) {
                all.append(' ').append(x.cell(cell % 2, cell / 2, what));
            }
        }
        all.append("\nschools, articles, breach");
        for (int what = 0; what < 5; what++) {
            all.append(' ').append(x.school(0, what)).append(' ').append(x.school(1, what));
            all.append(' ').append(what < 4 ? x.article(what) : 0).append(' ').append(x.breach(what));
        }
        all.append("\nhiding ").append(x.hiding(0)).append(' ').append(x.hiding(1)).append("\nlatest");
        for (int what = 0; what < 3; what++) {
            all.append(' ').append(x.worked(what)).append(' ').append(x.ran(what)).append(' ').append(x.wayAt(what, what / 2));
        }
    }

    private static void traysOf(SnowForts x, StringBuilder all) {
        all.append("\ntrays");
        for (int tray = 0; tray < 4; tray++) {
            for (int place = 0; place < 6; place++) {
                all.append(' ').append(x.read(tray, place)).append(' ').append(x.status());
            }
            x.write(tray, 0, Long.MAX_VALUE - 5);
            all.append(" sort by ").append(x.read(tray, 0)).append(';');
        }
    }

    /** What is refused with NONE. */
    static void refused(String what, int status, ToLongFunction<SnowForts> call) {
        refused(what, status, x -> { }, call);
        SnowForts fresh = new SnowForts();
        call.applyAsLong(fresh);
        if (fresh.status() != 0 && fresh.status() != 10) {
            alike(what + ", on a new object", fresh, new SnowForts());
        }
    }

    /** What is refused with false. */
    static void denied(String what, int status, Predicate<SnowForts> call) {
        refused(what, status, x -> call.test(x) ? 1 : -1);
    }

    /** What is refused behind some calls more. */
    static void refused(String what, int status, Consumer<SnowForts> past, ToLongFunction<SnowForts> call) {
        SnowForts asked = full();
        SnowForts other = full();
        past.accept(asked);
        past.accept(other);
        Check.due(what, asked, call.applyAsLong(asked), -1, status);
        alike(what, asked, other);
    }

    static void denied(String what, int status, Consumer<SnowForts> past, Predicate<SnowForts> call) {
        refused(what, status, past, x -> call.test(x) ? 1 : -1);
    }

    /** A text with a FAULT: nothing has changed but STATUS, the tape, what fault() tells. */
    static void faulty(boolean isYard, String text) {
        SnowForts asked = full();
        SnowForts other = full();
        // a text of no bytes empties the tape, and is a FAULT of its own
        asked.yard(0);
        other.yard(0);
        int n = Check.put(asked, text);
        Check.due("a FAULT: " + text, asked, isYard ? asked.yard(n) : asked.orders(n), -1, 10);
        asked.yard(0);
        alike("behind the FAULT of " + text, asked, other);
    }

    /** Both tell the same, whatever they are asked. */
    static void alike(String what, SnowForts asked, SnowForts other) {
        String[] got = allOf(asked).split("\n");
        String[] want = allOf(other).split("\n");
        Check.due(what + ": lines told", got.length, want.length);
        for (int i = 0; i < Math.min(got.length, want.length); i++) {
            Check.due(what + ": changed " + want[i] + " to " + got[i], got[i].equals(want[i]), true);
        }
    }
}
