/** Promises 35 to 37: looks for ice. */
public final class IceTest {
    public static void main(String[] args) {
        looks();
        knownNoMore();
        sureLooks();
        Check.end("IceTest");
    }

    private static SnowForts walls() {
        return Check.forts("wide 4 high 2;school a hands 40;school b hands 40;wall 0 0 tall 1;wall 1 0 tall 2;"
            + "wall 1 1 tall 3;wall 2 0 tall 4;snow 0 1 deep 9;snow 2 1 deep 9;");
    }

    private static void looks() {
        SnowForts x = walls();
        Check.due("hiding(0)", x, x.hiding(0), 3, 0);
        Check.due("hiding(1)", x, x.hiding(1), 1, 0);
        x.ice(1, 0);
        Check.due("look(1, 0)", x, x.look(1, 0), 1, 0);
        Check.due("known", x, x.hiding(0), 2, 0);
        Check.due("again", x, x.look(1, 0), 1, 0);
        Check.due("look(0, 0)", x, x.look(0, 0), 0, 0);
        Check.due("known", x, x.hiding(0), 1, 0);
        Check.due("a cell without a wall", x, x.look(0, 1), 0, 0);
        Check.due("hides nothing", x, x.hiding(0), 1, 0);
        Check.due("no such cell", x, x.look(4, 0), -1, 2);
        Check.due("no such cell", x, x.look(0, 2), -1, 2);
        Check.due("no such cell", x, x.look(-1, 0), -1, 2);
        Check.due("hiding(2)", x, x.hiding(2), -1, 5);
    }

    private static void lookAll(SnowForts x) {
        for (int cell = 0; cell < 8; cell++) {
            x.look(cell % 4, cell / 4);
        }
        Check.due("all known", x.hiding(0) + x.hiding(1), 0);
    }

    private static void knownNoMore() {
        SnowForts x = walls();
        lookAll(x);
        x.fall(1);
        x.night();
        Check.due("fall, night", x.hiding(0) + x.hiding(1), 0);
        x.build(0, 1, 1);
        Check.due("build of a known cell", x.hiding(0), 1);
        lookAll(x);
        x.build(0, 1, 99);
        x.build(0, 1, 0);
        x.ice(0, 2);
        Check.due("what can't be", x.hiding(0), 0);
        x.ice(0, 1);
        Check.due("ice", x.hiding(0), 1);
        x.ice(0, 1);
        x.look(0, 1);
        x.ice(0, 1);
        Check.due("an ice that can't be", x.hiding(0), 0);
        x.steal(0, 0, 2, 0, 1);
        Check.due("stolen to it", x.hiding(0), 1);
        Check.due("stolen from it", x.hiding(1), 1);
        lookAll(x);
        x.steal(0, 0, 2, 0, 1);
        Check.due("a steal of none", x.hiding(0) + x.hiding(1), 0);
        x.thaw(0);
        Check.due("a thaw", x.hiding(0), 4);
        Check.due("a thaw", x.hiding(1), 1);
    }

    private static void sureLooks() {
        SnowForts x = walls();
        Check.due("sure(0, 1)", x, x.sure(0, 1), 3, 0);
        Check.due("sure(0, 2)", x, x.sure(0, 2), 2, 0);
        Check.due("sure(0, 3)", x, x.sure(0, 3), 1, 0);
        Check.due("sure(0, 4)", x, x.sure(0, 4), -1, 9);
        Check.due("sure(0, 18)", x, x.sure(0, 18), -1, 9);
        Check.due("sure(0, 19)", x, x.sure(0, 19), -1, 5);
        Check.due("sure(0, 0)", x, x.sure(0, 0), -1, 5);
        Check.due("sure(2, 1)", x, x.sure(2, 1), -1, 5);
        Check.due("sure(-1, 1)", x, x.sure(-1, 1), -1, 5);
        x.look(0, 0);
        Check.due("one fewer", x, x.sure(0, 1), 2, 0);
        x.look(1, 1);
        x.look(1, 0);
        Check.due("none hides", x, x.sure(0, 1), -1, 9);
    }
}
