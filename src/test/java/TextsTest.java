/** Promises 9 to 17: the tape, the text of a yard, what a yard tells. */
public final class TextsTest {
    private static final String PLAIN = "wide 4 high 3;";

    public static void main(String[] args) {
        tapeIsFed();
        yardIsTaken();
        yardTakesPlace();
        yardsFollowOneAnother();
        yardNeedsItsBytes();
        tokens();
        faultsOfTheSize();
        faultsOfSchools();
        faultsOfCells();
        faultsOfArticles();
        faultStays();
        manyTells();
        cellTells();
        schoolTells();
        articleTells();
        Check.end("TextsTest");
    }

    private static void tapeIsFed() {
        SnowForts x = new SnowForts();
        for (int fed = 20; fed <= 900; fed += 20) {
            Check.due("feed to " + fed, x.feed(0x20202020, 0x0a0a0a0a, 0x20202020, 0x20202020, 0x20202020), fed);
        }
        Check.due("feed above 900", x.feed(0, 0, 0, 0, 0), -1);
        Check.due("yard(901)", x, x.yard(901), -1, 5);
        Check.due("yard(900) of blanks", x, x.yard(900), -1, 10);
        Check.due("its fault", x.fault(0), 2);
        Check.due("its place", x.fault(1), 900);
        Check.due("the tape is empty", x.feed(0, 0, 0, 0, 0), 20);
        Check.due("a byte 0", x, x.yard(20), -1, 10);
        Check.due("its fault", x.fault(0), 1);
        Check.due("its place", x.fault(1), 0);
        // w i d e, the highest byte first, and bytes above 127
        x.feed(0x77696465, 0x20322068, 0x69676820, 0x313b0a20, 0xff000000);
        Check.due("yard by feed", x, x.yard(16), 2, 0);
        x.feed(0x77696465, 0x20322068, 0x69676820, 0x313b0a20, 0xff000000);
        Check.due("yard by feed", x, x.yard(17), -1, 10);
        Check.due("its fault", x.fault(0), 1);
        Check.due("its place", x.fault(1), 16);
    }

    private static void yardIsTaken() {
        SnowForts x = new SnowForts();
        int n = Check.put(x, "wide 6 high 6;school a hands 40;school abcdefgh hands 0;snow 5 5 deep 99;"
            + "wall 5 5 tall 99;sun 5 5 by 9;no wall above 20;no build behind 40;no steal;no ice above 18;");
        Check.due("the greatest yard", x, x.yard(n), 36, 0);
        Check.due("fault(0)", x.fault(0), 0);
        Check.due("fault(1)", x.fault(1), -1);
        Check.due("fault(2)", x.fault(2), -1);
        Check.due("fault(-1)", x.fault(-1), -1);
        Check.due("hands", x.school(0, 0), 40);
        Check.due("hands", x.school(1, 0), 0);
        Check.due("snow", x.cell(5, 5, 0), 99);
        Check.due("wall", x.cell(5, 5, 1), 99);
        Check.due("sun", x.cell(5, 5, 2), 9);
        Check.due("last night's wall", x.cell(5, 5, 3), 99);
        Check.due("the least yard", Check.yard(x, "wide 2 high 1;"), 2);
        Check.due("only the first n bytes", x.yard(Check.put(x, "wide 4 high 1;go") - 2), 4);
    }

    /** A yard that is taken leaves nothing of that ahead. */
    private static void yardTakesPlace() {
        SnowForts x = Check.forts("wide 2 high 1;school a hands 9;no build behind 0;snow 0 0 deep 9;wall 1 0 tall 2;");
        x.build(0, 0, 2);
        x.ice(0, 0);
        x.fall(1);
        x.thaw(1);
        x.night();
        Check.orders(x, "fall 1;");
        Check.due("ORDERS", x.run(0), 1);
        Check.due("a FAULT", x, Check.yard(x, "wide 4 high 1;snow"), -1, 10);
        Check.due("the old one stays", x.many(0), 2);
        Check.due("with its day", x.many(3), 1);
        Check.due("with its schools", x.many(2), 1);
        Check.due("with its articles", x.article(1), 0);
        Check.due("with its ORDERS", x.run(0), 1);
        Check.due("another one", Check.yard(x, "wide 2 high 2;"), 4);
        int[] told = {2, 2, 0, 0, 0, 0, 0, 0, 0, 0};
        for (int what = 0; what < told.length; what++) {
            Check.due("many(" + what + ") of another one", x.many(what), told[what]);
        }
        Check.due("no ORDERS", x, x.run(0), -1, 8);
        Check.due("no article", x, x.article(1), -1, 8);
        Check.due("no breach", x, x.breach(0), -1, 8);
        Check.due("no ice", x.cell(0, 0, 5), 0);
    }

    private static String told(SnowForts x) {
        StringBuilder all = new StringBuilder();
        for (int what = 0; what < 10; what++) {
            all.append(x.many(what)).append(' ');
        }
        for (int cell = 0; cell < 36; cell++) {
            for (int what = 0; what < 6; what++) {
                all.append(x.cell(cell % 6, cell / 6, what)).append(' ');
            }
        }
        for (int what = 0; what < 5; what++) {
            all.append(x.school(0, what)).append(' ').append(x.school(1, what)).append(' ');
            all.append(x.article(what)).append(' ').append(x.breach(what)).append(' ');
        }
        return all.append(x.hiding(0)).append(' ').append(x.hiding(1)).append(' ').append(x.back()).toString();
    }

    /** After two yards with all that can be in them, a third one is as on a new object. */
    private static void yardsFollowOneAnother() {
        String full = "wide 6 high 6;school a hands 40;school b hands 39;snow 0 0 deep 99;snow 5 5 deep 9;wall 0 1 tall 5;"
            + "wall 5 4 tall 5;wall 0 0 tall 3;sun 0 1 by 2;sun 3 3 by 9;no wall above 0;no build behind 0;no steal;"
            + "no ice above 0;";
        String[] next = {"wide 6 high 6;", "wide 6 high 6;school b hands 1;wall 0 0 tall 2;wall 5 5 tall 1;",
            "wide 2 high 1;school b hands 3;school a hands 4;snow 1 0 deep 1;sun 0 0 by 1;", full};
        for (String last : next) {
            SnowForts x = new SnowForts();
            for (int i = 0; i < 3; i++) {
                Check.due("a full yard", Check.yard(x, full), 36);
                x.build(0, 0, 9);
                x.ice(0, 0);
                x.ice(5, 4);
                x.look(0, 1);
                x.look(0, 0);
                x.steal(5, 5, 0, 0, 5);
                x.fall(40);
                x.night();
                x.build(0, 0, 9);
                x.thaw(1);
                x.ice(0, 0);
                x.look(0, 0);
                x.look(0, 1);
            }
            Check.yard(x, "wide 6 high 6;snow 0 0 deep");
            Check.due("cut short", x.fault(0), 2);
            Check.yard(x, last);
            Check.due("taken", x, x.many(4), 0, 0);
            Check.due("as on a new object: " + last, told(x).equals(told(Check.forts(last))), true);
        }
    }

    private static void yardNeedsItsBytes() {
        SnowForts x = new SnowForts();
        int n = Check.put(x, PLAIN);
        Check.due("yard(21)", x, x.yard(21), -1, 5);
        Check.due("yard(-1)", x, x.yard(-1), -1, 5);
        Check.due("fault(0) behind these", x.fault(0), -1);
        Check.due("the tape is kept", x, x.yard(n), 12, 0);
        Check.due("the tape is empty", x, x.yard(1), -1, 5);
        Check.due("a text of no bytes", x, x.yard(0), -1, 10);
        Check.due("its place", x.fault(1), 0);
        Check.put(x, "Q");
        Check.due("a FAULT empties the tape", x, x.yard(1), -1, 10);
        Check.due("a FAULT empties the tape", x, x.yard(1), -1, 5);
    }

    private static void tokens() {
        SnowForts x = new SnowForts();
        Check.due("no blanks", Check.yard(x, "wide4high2;snow1 0deep0005;"), 8);
        Check.due("0005", x.cell(1, 0, 0), 5);
        Check.due("many blanks", Check.yard(x, "\n\n wide\n4\n  high 2\n;\n"), 8);
        fault("a tab", "wide\t4 high 2;", 1, 4);
        fault("a great letter", "Wide 4 high 2;", 1, 0);
        fault("a great letter in a word", "wiDe 4 high 2;", 2, 0);
        fault("a comma", "wide 4 high 2,", 1, 13);
        fault("five digits", "wide 00004 high 2;", 1, 5);
        fault("five digits where a word must stand", PLAIN + "12345", 1, 14);
        fault("a colon", PLAIN + ":", 1, 14);
        fault("a question mark", PLAIN + "?", 1, 14);
        fault("words as long as they go", "widehigh 4", 2, 0);
        fault("a sign that can't stand", PLAIN + "<", 2, 14);
        fault("a number that can't stand", PLAIN + "4", 2, 14);
        fault("a byte behind the first fault", PLAIN + "4 Q", 2, 14);
    }

    /** A yard's text that is not taken: which fault, and where. */
    private static void fault(String why, String text, int kind, int place) {
        SnowForts x = new SnowForts();
        Check.due(why, x, Check.yard(x, text), -1, 10);
        Check.due(why + ": fault(0) of " + text, x.fault(0), kind);
        Check.due(why + ": fault(1) of " + text, x.fault(1), place);
    }

    private static void faultsOfTheSize() {
        fault("not wide", "high 2 wide 4;", 2, 0);
        fault("wide 0", "wide 0 high 2;", 4, 5);
        fault("wide 1", "wide 1 high 2;", 4, 5);
        fault("wide 3", "wide 3 high 9;", 4, 5);
        fault("wide 5", "wide 5 high 2;", 4, 5);
        fault("wide 8", "wide 8 high 2;", 4, 5);
        fault("high 0", "wide 6 high 0;", 4, 12);
        fault("high 7", "wide 6 high 7;", 4, 12);
        fault("the end", "wide 6 ", 2, 7);
        fault("the end ahead of ;", "wide 6 high 6", 2, 13);
        fault("a word for a number", "wide high", 2, 5);
        fault("two signs", "wide 6 high 6;;", 2, 14);
    }

    private static void faultsOfSchools() {
        fault("a name of 9 letters", PLAIN + "school abcdefghi hands 1;", 2, 21);
        fault("a number for a name", PLAIN + "school 1 hands 1;", 2, 21);
        for (String word : new String[] {"wide", "high", "school", "hands", "snow", "deep", "wall", "tall", "sun", "by",
            "no", "above", "build", "behind", "steal", "ice", "fall", "thaw", "storm", "to", "night", "from", "when",
            "day", "breach", "way", "loop", "end", "stop"}) {
            fault("a name that is a word", PLAIN + "school " + word + " hands 1;", 2, 21);
            SnowForts x = new SnowForts();
            Check.due("nearly a word", Check.yard(x, PLAIN + "school " + word + "z hands 1;"), 12);
        }
        fault("a name that is taken", PLAIN + "school ab hands 1;school ab hands 1;", 3, 39);
        SnowForts x = new SnowForts();
        Check.due("a name that is longer", Check.yard(x, PLAIN + "school ab hands 1;school abc hands 1;"), 12);
        fault("41 hands", PLAIN + "school ab hands 41;", 4, 30);
        fault("no hands", PLAIN + "school ab 4;", 2, 24);
        fault("a third school", PLAIN + "school a hands 1;school b hands 1; school a hands 1;", 6, 49);
    }

    private static void faultsOfCells() {
        fault("no such x", PLAIN + "snow 4 0 deep 1;", 4, 19);
        fault("no such y", PLAIN + "snow 3 3 deep 1;", 4, 21);
        fault("too deep", PLAIN + "snow 3 2 deep 100;", 4, 28);
        fault("too tall", PLAIN + "wall 3 2 tall 100;", 4, 28);
        fault("too much sun", PLAIN + "sun 3 2 by 10;", 4, 25);
        fault("snow is not tall", PLAIN + "snow 3 2 tall 10;", 2, 23);
        fault("snow told already", PLAIN + "snow 3 2 deep 0;snow 3 2 by", 5, 37);
        fault("a wall told already", PLAIN + "wall 3 2 tall 0;wall 3 2 by", 5, 37);
        fault("sun told already", PLAIN + "sun 3 2 by 0;sun 3 2 by", 5, 33);
        SnowForts x = new SnowForts();
        Check.due("snow, wall, sun of a cell", Check.yard(x, PLAIN + "snow 0 1 deep 1;wall 0 1 tall 2;sun 0 1 by 3;"), 12);
        Check.due("told again in the next text", Check.yard(x, PLAIN + "snow 0 1 deep 1;snow 1 0 deep 2;"), 12);
    }

    private static void faultsOfArticles() {
        fault("no such article", PLAIN + "no snow above 1;", 2, 17);
        fault("no word", PLAIN + "no;", 2, 16);
        fault("walls above 20", PLAIN + "no wall above 21;", 4, 28);
        fault("building behind 40", PLAIN + "no build behind 41;", 4, 30);
        fault("ice above 18", PLAIN + "no ice above 19;", 4, 27);
        fault("walls behind", PLAIN + "no wall behind 2;", 2, 22);
        fault("walls told already", PLAIN + "no wall above 0;no wall;", 5, 33);
        fault("building told already", PLAIN + "no build behind 0;no build;", 5, 35);
        fault("stealing told already", PLAIN + "no steal;no steal;", 5, 26);
        fault("ice told already", PLAIN + "no ice above 0;no ice;", 5, 32);
    }

    private static void faultStays() {
        SnowForts x = new SnowForts();
        Check.yard(x, "wide 4 high 9;");
        x.yard(-1);
        x.orders(301);
        Check.due("fault(0) behind STATUS 5", x.fault(0), 4);
        Check.due("fault(1) behind STATUS 5", x.fault(1), 12);
        Check.orders(x, "fall 1;");
        Check.due("fault(0) of orders", x.fault(0), 0);
        Check.due("fault(1) of orders", x.fault(1), -1);
    }

    private static void manyTells() {
        SnowForts x = Check.forts("wide 2 high 1;school a hands 9;no build behind 0;snow 0 0 deep 98;wall 1 0 tall 2;");
        x.fall(3);
        x.build(0, 0, 1);
        x.thaw(4);
        x.night();
        int[] told = {2, 1, 1, 1, 1, 94, 2, 8, 2, 6};
        for (int what = 0; what < told.length; what++) {
            Check.due("many(" + what + ")", x, x.many(what), told[what], 0);
        }
        Check.due("many(-1)", x, x.many(-1), -1, 5);
        Check.due("many(10)", x, x.many(10), -1, 5);
        Check.due("all together", x.many(5) + x.many(6) + x.many(7) + x.many(8), 100 + x.many(9));
    }

    private static void cellTells() {
        SnowForts x = Check.forts("wide 4 high 2;school a hands 9;snow 1 1 deep 7;wall 1 1 tall 2;sun 1 1 by 3;");
        x.build(1, 1, 2);
        x.ice(1, 1);
        int[] told = {5, 4, 3, 2, 0, 1};
        for (int what = 0; what < told.length; what++) {
            Check.due("cell(1, 1, " + what + ")", x, x.cell(1, 1, what), told[what], 0);
        }
        x.night();
        Check.due("last night's wall", x.cell(1, 1, 3), 4);
        Check.due("the right half without a school", x.cell(2, 0, 4), 1);
        Check.due("cell(4, 0, 9)", x, x.cell(4, 0, 9), -1, 2);
        Check.due("cell(0, 2, 0)", x, x.cell(0, 2, 0), -1, 2);
        Check.due("cell(-1, 0, 0)", x, x.cell(-1, 0, 0), -1, 2);
        Check.due("cell(0, -1, 0)", x, x.cell(0, -1, 0), -1, 2);
        Check.due("cell(0, 0, 6)", x, x.cell(0, 0, 6), -1, 5);
        Check.due("cell(0, 0, -1)", x, x.cell(0, 0, -1), -1, 5);
    }

    private static void schoolTells() {
        SnowForts x = Check.forts("wide 2 high 2;school a hands 9;school b hands 8;no steal;no ice above 0;"
            + "snow 0 0 deep 9;wall 1 0 tall 5;wall 1 1 tall 6;");
        x.steal(1, 0, 0, 0, 5);
        x.ice(1, 1);
        int[] told = {8, 5, 4, 1, 11};
        for (int what = 0; what < told.length; what++) {
            Check.due("school(1, " + what + ")", x, x.school(1, what), told[what], 0);
        }
        Check.due("school(0, 2)", x, x.school(0, 2), 0, 0);
        x.night();
        Check.due("used behind a night", x.school(1, 1), 0);
        Check.due("school(2, 9)", x, x.school(2, 9), -1, 2);
        Check.due("school(-1, 0)", x, x.school(-1, 0), -1, 2);
        Check.due("school(0, 5)", x, x.school(0, 5), -1, 5);
        Check.due("school(0, -1)", x, x.school(0, -1), -1, 5);
        x = Check.forts("wide 2 high 2;school a hands 9;");
        Check.due("one school alone", x, x.school(1, 0), -1, 2);
    }

    private static void articleTells() {
        SnowForts x = Check.forts("wide 2 high 2;no wall above 20;no build behind 40;no steal;no ice above 18;");
        int[] told = {20, 40, 0, 18};
        for (int kind = 0; kind < told.length; kind++) {
            Check.due("article(" + kind + ")", x, x.article(kind), told[kind], 0);
        }
        Check.due("article(-1)", x, x.article(-1), -1, 5);
        Check.due("article(4)", x, x.article(4), -1, 5);
        x = Check.forts("wide 2 high 2;no steal;");
        for (int kind = 0; kind < told.length; kind++) {
            Check.due("article(" + kind + ") alone", x, x.article(kind), kind == 2 ? 0 : -1, kind == 2 ? 0 : 8);
        }
    }
}
