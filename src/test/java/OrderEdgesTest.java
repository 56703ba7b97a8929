/** Promises 11, 12, 44 to 46, sentence by sentence: each number of the orders' text, each FAULT and its place, runs. */
public final class OrderEdgesTest {
    private static final String YARD = "wide 4 high 2;school a hands 40;school b hands 40;";
    private static final String[] WORDS = {"wide", "high", "school", "hands", "snow", "deep", "wall", "tall", "sun", "by",
        "no", "above", "build", "behind", "steal", "ice", "fall", "thaw", "storm", "to", "night", "from", "when", "day",
        "breach", "way", "loop", "end", "stop", "zz", "fal", "falls", "abcdefgh", "abcdefghi"};
    private static final String STEP_WORDS = " fall thaw storm build ice steal night when loop stop ";
    private static final String TEST_WORDS = " day wall breach way ";

    public static void main(String[] args) {
        textsOf300Bytes();
        textsOfNoBytes();
        onlyTheFirstBytes();
        numbersOfSteps();
        stormsOfTwoNumbers();
        cellsOfTheYard();
        halvesWithoutSchool();
        stealsWithinOneHalf();
        thirtySteps();
        threeDeep();
        endsAndBeginnings();
        endOfTheText();
        tokenThatCantStand();
        firstAlongTheText();
        newOrdersTakeThePlace();
        seedsOfRuns();
        drawsOfAllSeeds();
        drawsByAllWidths();
        drawsGoOn();
        whatIsMissed();
        whatIsNotMissed();
        testsOfDays();
        testsOfWalls();
        testsOfWays();
        testsOfBreaches();
        skippedSteps();
        roundsOfLoops();
        stopsEverywhere();
        threeHundredSteps();
        loopsCountOnce();
        stepLeftToBeDone();
        whatRanTells();
        runsFollowOneAnother();
        seedsOfPeaces();
        fractionsOfPeaces();
        allStaysBehindPeaces();
        Check.end("OrderEdgesTest");
    }

    private static SnowForts taken(String yard, String text, int steps) {
        SnowForts x = Check.forts(yard);
        Check.taken("orders", x, false, text, steps);
        return x;
    }

    private static void fault(String why, String text, int kind, int place) {
        Check.faulty(why, Check.forts(YARD), false, text, kind, place);
    }

    private static String blanksTo(String text, int length) {
        StringBuilder all = new StringBuilder(text);
        while (all.length() < length) {
            all.append(all.length() % 2 == 0 ? ' ' : '\n');
        }
        return all.toString();
    }

    // ---- the text

    private static void textsOf300Bytes() {
        taken(YARD, blanksTo("night;", 299), 1);
        taken(YARD, blanksTo("night;", 300), 1);
        SnowForts x = Check.forts(YARD);
        int n = Check.put(x, blanksTo("night;", 301));
        Check.due("301 bytes", x, x.orders(n), -1, 5);
        Check.due("no FAULT by these: the yard's", x.fault(0), 0);
        Check.due("no ORDERS by these", x, x.run(0), -1, 8);
        Check.due("the tape is kept: 300 of its bytes", x, x.orders(300), 1, 0);
        Check.due("it is empty then", x, x.orders(1), -1, 5);
        x = Check.forts(YARD);
        n = Check.put(x, blanksTo(YARD, 900));
        for (int bytes : new int[] {301, 302, 557, 899, 900, 901, 65536 + 300}) {
            Check.due("orders(" + bytes + ")", x, x.orders(bytes), -1, 5);
        }
        Check.due("a yard of as many is taken", x, x.yard(n), 8, 0);
        fault("the 300th byte", blanksTo("night;", 299) + "!", 1, 299);
        fault("the 300th byte", blanksTo("night;", 299) + ";", 2, 299);
        fault("the end behind 300 bytes", blanksTo("night", 300), 2, 300);
        StringBuilder nights = new StringBuilder();
        for (int i = 0; i < 30; i++) {
            nights.append("     night");
        }
        fault("300 bytes of words", nights.toString(), 2, 15);
    }

    private static void textsOfNoBytes() {
        SnowForts x = new SnowForts();
        Check.due("none at first", x, x.run(0), -1, 8);
        Check.due("no ORDERS: peaces(0, 1)", x, x.peaces(0, 1), false, 8);
        Check.due("a text of no bytes", x, x.orders(0), 0, 0);
        Check.due("fault(0)", x.fault(0), 0);
        Check.due("fault(1)", x.fault(1), -1);
        Check.due("there are ORDERS then", x, x.run(0), 0, 0);
        for (int what = 0; what < 4; what++) {
            Check.due("ran(" + what + ")", x, x.ran(what), 0, 0);
        }
        Check.due("peaces(0, 1)", x, x.peaces(0, 1), true, 0);
        x = new SnowForts();
        Check.taken("blanks alone", x, false, " \n ", 0);
        Check.due("there are ORDERS then", x, x.run(0), 0, 0);
        x = new SnowForts();
        Check.put(x, "fall 1;");
        Check.due("none of the bytes", x, x.orders(0), 0, 0);
        Check.due("the tape is empty then", x, x.orders(1), -1, 5);
    }

    private static void onlyTheFirstBytes() {
        SnowForts x = Check.forts(YARD);
        Check.put(x, "fall 12;night;");
        Check.due("the text ends ahead of the night", x, x.orders(8), 1, 0);
        x.run(0);
        Check.due("it fell", x.many(9), 8 * 12);
        Check.put(x, "fall 12;night;");
        Check.due("ahead of the sign", x, x.orders(7), -1, 10);
        Check.due("at its length", x.fault(1), 7);
        Check.put(x, "fall 412;night;");
        Check.due("within a number that can't be", x, x.orders(6), -1, 10);
        Check.due("it is one that can be", x.fault(0), 2);
        Check.due("at its length", x.fault(1), 6);
        Check.put(x, "loop 1;night;end;");
        Check.due("within an end", x, x.orders(15), -1, 10);
        Check.due("another word", x.fault(0), 2);
        Check.due("at its place", x.fault(1), 13);
    }

    // ---- numbers

    /** The last number that is taken and the first that isn't, on both sides. */
    private static void bounds(String head, int low, int high, String tail, int steps) {
        for (int number : new int[] {low, low + 1, high - 1, high}) {
            taken(YARD, head + number + tail, steps);
            taken(YARD, head + String.format("%04d", number) + tail, steps);
        }
        int place = head.length();
        if (low > 0) {
            fault("below", head + (low - 1) + tail, 4, place);
            fault("below", head + "0000" + tail, 4, place);
        }
        for (int number : new int[] {high + 1, high + 2, 10 * high, 256 * (high / 256 + 1) + low, 9999}) {
            if (number > high && number <= 9999) {
                fault("above", head + number + tail, 4, place);
                fault("above, and no more", head + number, 4, place);
            }
        }
        fault("five digits", head + "00001" + tail, 1, place);
        fault("a sign below 0", head + "-1" + tail, 1, place);
        fault("no number", head + tail, 2, tail.isEmpty() ? place : place + (tail.charAt(0) == ' ' ? 1 : 0));
        fault("a word", head + "zz" + tail, 2, place);
    }

    private static void numbersOfSteps() {
        bounds("fall ", 0, 40, ";", 1);
        bounds("thaw ", 0, 40, ";", 1);
        bounds("storm ", 0, 40, " to 40;", 1);
        bounds("storm 0 to ", 0, 40, ";", 1);
        bounds("build 1 1 by ", 1, 40, ";", 1);
        bounds("steal 1 1 from 2 0 by ", 1, 40, ";", 1);
        bounds("loop ", 1, 99, ";end;", 1);
        for (String sign : new String[] {"<", ">", "="}) {
            bounds("when day " + sign, 0, 999, ";end;", 1);
            bounds("when wall 1 1" + sign, 0, 99, ";end;", 1);
            bounds("when way" + sign, 0, 999, ";end;", 1);
        }
    }

    private static void stormsOfTwoNumbers() {
        for (int first = 0; first <= 41; first++) {
            for (int second = 0; second <= 41; second++) {
                String text = "storm " + first + " to " + second + ";";
                if (first > 40) {
                    fault("the first", text, 4, 6);
                } else if (second > 40) {
                    fault("the second", text, 4, text.indexOf(" to ") + 4);
                } else if (first > second) {
                    fault("the first above the second", text, 4, 6);
                } else {
                    taken(YARD, text, 1);
                }
            }
        }
    }

    private static final String[] CELL_STEPS = {"build X Y by 1;", "ice X Y;", "when wall X Y=1;end;"};

    private static String put(String step, int x, int y) {
        return step.replace("X", "" + x).replace("Y", "" + y);
    }

    private static void cellsOfTheYard() {
        for (int wide = 2; wide <= 6; wide += 2) {
            for (int high = 1; high <= 6; high++) {
                String yard = "wide " + wide + " high " + high + ";school a hands 1;school b hands 1;";
                for (String step : CELL_STEPS) {
                    cellsOf(yard, step, wide, high);
                }
                cellsOf(yard, "steal X Y from 0 0 by 1;", wide, high);
                cellsOf(yard, "steal 0 0 from X Y by 1;", wide, high);
            }
        }
    }

    /** The right half's last cell, and what is beside and below it. */
    private static void cellsOf(String yard, String step, int wide, int high) {
        int place = step.indexOf('X');
        taken(yard, put(step, wide - 1, high - 1), 1);
        taken(yard, put(step, wide / 2, 0), 1);
        SnowForts x = Check.forts(yard);
        Check.faulty("beside", x, false, put(step, wide, high - 1), 4, place);
        Check.faulty("below", x, false, put(step, wide - 1, high), 4, place + 2);
        Check.faulty("both", x, false, put(step, wide, high), 4, place);
        Check.faulty("beside, and no more", x, false, step.substring(0, place) + wide, 4, place);
        Check.faulty("x alone", x, false, step.substring(0, place) + "0", 2, place + 1);
        Check.faulty("256 is not 0", x, false, put(step, 256, 0), 4, place);
        Check.faulty("256 is not 0", x, false, put(step, wide - 1, 256), 4, place + 2);
    }

    /** FAULT 4 at its x, also ahead of a y that can't be; but the cell from which is stolen may lie there. */
    private static void halvesWithoutSchool() {
        for (int schools = 0; schools <= 2; schools++) {
            String yard = "wide 4 high 2;" + (schools > 0 ? "school a hands 1;" : "") + (schools > 1 ? "school b hands 1;" : "");
            for (int column = 0; column < 4; column++) {
                boolean has = column / 2 < schools;
                String steal = "steal X Y from " + (column < 2 ? 2 : 1) + " 1 by 1;";
                for (String step : new String[] {CELL_STEPS[0], CELL_STEPS[1], CELL_STEPS[2], steal}) {
                    int place = step.indexOf('X');
                    if (has) {
                        taken(yard, put(step, column, 1), 1);
                        Check.faulty("no such y", Check.forts(yard), false, put(step, column, 2), 4, place + 2);
                    } else {
                        Check.faulty("no school", Check.forts(yard), false, put(step, column, 1), 4, place);
                        Check.faulty("no school, no such y", Check.forts(yard), false, put(step, column, 2), 4, place);
                        Check.faulty("no school, and no more", Check.forts(yard), false,
                            step.substring(0, place) + column, 4, place);
                    }
                }
            }
        }
        SnowForts x = taken("wide 4 high 2;school a hands 9;snow 3 1 deep 8;", "steal 0 0 from 3 1 by 5;", 1);
        x.run(0);
        Check.due("it was stolen", x.cell(0, 0, 0), 5);
    }

    private static void stealsWithinOneHalf() {
        for (int wide = 2; wide <= 6; wide += 2) {
            String yard = "wide " + wide + " high 2;school a hands 1;school b hands 1;";
            for (int to = 0; to < wide; to++) {
                for (int from = 0; from < wide; from++) {
                    String text = "steal " + to + " 1 from " + from + " 0 by 1;";
                    if (to < wide / 2 == from < wide / 2) {
                        Check.faulty("one half", Check.forts(yard), false, text, 4, 17);
                        Check.faulty("one half, and no more", Check.forts(yard), false, text.substring(0, 18), 4, 17);
                        Check.faulty("one half, ahead of by 0", Check.forts(yard), false, text.replace("by 1", "by 0"), 4, 17);
                    } else {
                        taken(yard, text, 1);
                        Check.faulty("by 0", Check.forts(yard), false, text.replace("by 1", "by 0"), 4, 22);
                    }
                }
            }
        }
        fault("a cell from itself", "steal 1 1 from 1 1 by 1;", 4, 17);
        fault("ahead of the second y", "steal 1 1 from 1", 2, 16);
        fault("no token at the second y", "steal 1 1 from 1 Q", 1, 17);
    }

    // ---- steps and ends

    private static String nights(int many) {
        return "night;".repeat(many);
    }

    private static void thirtySteps() {
        for (int steps = 0; steps <= 30; steps++) {
            Check.due("steps", taken(YARD, nights(steps), steps).run(0), steps);
        }
        for (String word : STEP_WORDS.trim().split(" ")) {
            fault("a 31st", nights(30) + word, 6, 180);
            fault("a 31st", nights(30) + " " + word + " 9999", 6, 181);
        }
        fault("two more", nights(30) + nights(2), 6, 180);
        for (String word : new String[] {"end", "snow", "zz", "7", "<", ";"}) {
            fault("no 31st STEP", nights(30) + word, 2, 180);
        }
        fault("no 31st STEP", nights(30) + "Q", 1, 180);
        // each of these is one step
        String[] steps = {"fall 1;", "thaw 1;", "storm 1 to 2;", "build 0 0 by 1;", "ice 0 0;", "steal 0 0 from 3 0 by 1;",
            "night;", "stop;", "loop 2;end;", "when breach;end;", "when day=1;end;", "when way=1;end;", "when wall 0 0=1;end;"};
        for (String step : steps) {
            taken(YARD, step + nights(29), 30);
            fault("it is one", step + nights(30), 6, step.length() + 29 * 6);
        }
        // ends are none: as many of them as steps
        taken(YARD, "loop 1;end;".repeat(27), 27);
        taken(YARD, "loop 1;loop 1;loop 1;end;end;end;".repeat(9), 27);
        fault("a 31st within a loop", nights(29) + "loop 2;stop;end;", 6, 181);
        taken(YARD, nights(29) + "loop 2;end;", 30);
    }

    private static void threeDeep() {
        String[] openers = {"loop 2;", "when breach;", "when day=1;"};
        for (String first : openers) {
            for (String second : openers) {
                for (String third : openers) {
                    String three = first + second + third;
                    taken(YARD, three + "night;end;end;end;", 4);
                    fault("a loop", three + "loop", 7, three.length());
                    fault("a when", three + " when breach;end;end;end;end;", 7, three.length() + 1);
                    fault("a loop behind a night", three + "night;loop 0", 7, three.length() + 6);
                    taken(YARD, three + "end;" + third + "end;end;end;", 4);
                    taken(YARD, three + "end;end;end;" + three + "end;end;end;", 6);
                    fault("again within three", three + "end;end;" + second + third + "when", 7,
                        three.length() + 8 + second.length() + third.length());
                }
            }
        }
        // 6 ahead of 7 on one word
        String deep = "loop 2;loop 2;loop 2;";
        fault("the 31st STEP four deep", deep + nights(27) + "loop", 6, 21 + 27 * 6);
        fault("the 30th STEP four deep", deep + nights(26) + "loop", 7, 21 + 26 * 6);
        fault("a word that is no step", deep + "snow", 2, 21);
    }

    private static void endsAndBeginnings() {
        fault("an end without a beginning", "end;", 2, 0);
        fault("an end without a beginning", "end", 2, 0);
        fault("an end without a beginning", nights(2) + "end;", 2, 12);
        fault("an end behind its end", "loop 2;end;end;", 2, 11);
        fault("an end behind its end", "when breach;end;end;", 2, 16);
        String[] beginnings = {"loop 2;", "when breach;", "when day=1;", "when wall 0 0=1;", "when way=1;"};
        for (String beginning : beginnings) {
            int n = beginning.length();
            fault("the text's end", beginning, 2, n);
            fault("the text's end", beginning + " \n", 2, n + 2);
            fault("the text's end", beginning + "night;", 2, n + 6);
            fault("the text's end", beginning + beginning + "end;", 2, 2 * n + 4);
            fault("the end without a sign", beginning + "end", 2, n + 3);
            fault("the end with a number", beginning + "end 2;", 2, n + 4);
            taken(YARD, beginning + "end;", 1);
        }
    }

    private static final String[] TOKENS = ("fall 4 ; thaw 0 ; storm 1 to 2 ; build 0 1 by 3 ; ice 0 1 ; steal 0 1 from 3 0 by 4 ; "
        + "night ; when day < 3 ; when wall 0 1 > 2 ; end ; when breach ; end ; when way = 4 ; stop ; end ; end ; loop 2 ; "
        + "end ;").split(" ");

    /** How many whens and loops are open ahead of a token. */
    private static int depthAt(int at) {
        int depth = 0;
        for (int i = 0; i < at; i++) {
            depth += TOKENS[i].equals("when") || TOKENS[i].equals("loop") ? 1 : TOKENS[i].equals("end") ? -1 : 0;
        }
        return depth;
    }

    private static int stepsTo(int at) {
        int steps = 0;
        for (int i = 0; i < at; i++) {
            boolean begins = i == 0 || TOKENS[i - 1].equals(";");
            steps += begins && !TOKENS[i].equals("end") ? 1 : 0;
        }
        return steps;
    }

    /** Cut behind each of its tokens but those with which it may end. */
    private static void endOfTheText() {
        StringBuilder text = new StringBuilder();
        for (int i = 0; i <= TOKENS.length; i++) {
            boolean mayEnd = i == 0 || TOKENS[i - 1].equals(";") && depthAt(i) == 0;
            for (String blanks : new String[] {"", " ", "\n \n"}) {
                String cut = text + blanks;
                if (mayEnd) {
                    taken(YARD, cut, stepsTo(i));
                } else {
                    fault("cut", cut, 2, cut.length());
                }
            }
            if (i < TOKENS.length) {
                text.append(i == 0 ? "" : " ").append(TOKENS[i]);
            }
        }
    }

    private static String with(int at, String other) {
        StringBuilder text = new StringBuilder();
        for (int i = 0; i < TOKENS.length; i++) {
            text.append(i == at ? other : TOKENS[i]).append(' ');
        }
        return text.toString();
    }

    private static int placeOf(int at) {
        int place = 0;
        for (int i = 0; i < at; i++) {
            place += TOKENS[i].length() + 1;
        }
        return place;
    }

    /** In place of each token each that can't stand there. */
    private static void tokenThatCantStand() {
        for (int at = 0; at < TOKENS.length; at++) {
            String token = TOKENS[at];
            int place = placeOf(at);
            boolean isNumber = token.charAt(0) >= '0' && token.charAt(0) <= '9';
            boolean compares = "<>=".contains(token);
            fault("no token", with(at, "Z"), 1, place);
            fault("5 digits", with(at, "00001"), 1, place);
            for (String sign : new String[] {"<", ">", "=", ";"}) {
                if (!sign.equals(token) && (!compares || sign.equals(";"))) {
                    fault("a sign", with(at, sign), 2, place);
                }
            }
            if (!isNumber) {
                fault("a number", with(at, "3"), 2, place);
            }
            boolean begins = at == 0 || TOKENS[at - 1].equals(";");
            boolean tests = at > 0 && TOKENS[at - 1].equals("when");
            for (String word : WORDS) {
                boolean stands = begins && STEP_WORDS.contains(" " + word + " ")
                    || begins && word.equals("end") && depthAt(at) > 0
                    || tests && TEST_WORDS.contains(" " + word + " ") || word.equals(token);
                if (!stands) {
                    fault("another word", with(at, word), 2, place);
                }
            }
        }
    }

    private static void firstAlongTheText() {
        fault("4 ahead of 1", "fall 41;Q", 4, 5);
        fault("1 ahead of 4", "fall Q;fall 41;", 1, 5);
        fault("2 ahead of 4", "fall;fall 41;", 2, 4);
        fault("4 ahead of the sign", "fall 41", 4, 5);
        fault("4 ahead of 2", "build 4 0 to", 4, 6);
        fault("2 ahead of 6", "night " + nights(31), 2, 6);
        fault("6 ahead of 2", nights(31) + "end;", 6, 180);
        fault("7 ahead of 6", "loop 1;loop 1;loop 1;loop 1;" + nights(31), 7, 21);
        fault("the text's end behind all else", "loop 1;fall 41;", 4, 12);
        fault("a second number that can't be, ahead of the first above it", "storm 9 to 41;", 4, 11);
        fault("the second number is no token", "storm 9 to Q;", 1, 11);
        fault("the second number lacks", "storm 9 to ;", 2, 11);
        // the step ahead is whole, though its test can never hold
        fault("behind a test", "when day<0;Q", 1, 11);
    }

    private static void newOrdersTakeThePlace() {
        SnowForts x = taken(YARD, "fall 1;night;", 2);
        Check.due("by the first", x.run(0), 2);
        Check.taken("others", x, false, "thaw 0;", 1);
        Check.due("by the second", x.run(0), 1);
        Check.faulty("a FAULT", x, false, "fall 1;fall 2;fall 41;", 4, 19);
        Check.due("the old ones stay", x, x.run(0), 1, 0);
        x.orders(-1);
        x.orders(301);
        Check.due("the old ones stay behind 5", x, x.run(0), 1, 0);
        Check.faulty("a FAULT of a yard", x, true, "wide 2 high 1;Q", 1, 14);
        Check.due("the old ones stay", x, x.run(0), 1, 0);
        Check.taken("none in these", x, false, "", 0);
        Check.due("by the empty ones", x, x.run(0), 0, 0);
        Check.taken("a yard", x, true, YARD, 8);
        Check.due("no ORDERS", x, x.run(0), -1, 8);
        Check.due("no ORDERS", x, x.peaces(0, 1), false, 8);
    }

    // ---- draws

    private static void seedsOfRuns() {
        SnowForts none = new SnowForts();
        SnowForts x = taken("wide 2 high 1;", "storm 0 to 40;", 1);
        for (int seed : new int[] {Integer.MIN_VALUE, -65536, -1, 10000, 10001, 65536, Integer.MAX_VALUE}) {
            Check.due("run(" + seed + ")", x, x.run(seed), -1, 5);
            Check.due("run(" + seed + ") without ORDERS", none, none.run(seed), -1, 5);
            Check.due("ran(0)", x, x.ran(0), -1, 8);
        }
        Check.due("it fell", x.many(9), 0);
        for (int seed : new int[] {0, 1, 9998, 9999}) {
            Check.due("run(" + seed + ")", x, x.run(seed), 1, 0);
            Check.due("run(" + seed + ") without ORDERS", none, none.run(seed), -1, 8);
        }
        // by hand: 9337 / 8 = 1167, 1167 by 41 leaves 19
        x = taken("wide 2 high 1;", "storm 0 to 40;", 1);
        x.run(0);
        Check.due("by the seed 0", x.cell(0, 0, 0), 19);
        // 9999 * 2741 + 9337 = 27416596, by 65536 leaves 22548; / 8 = 2818, by 41 leaves 30
        x = taken("wide 2 high 1;", "storm 0 to 40;", 1);
        x.run(9999);
        Check.due("by the seed 9999", x.cell(1, 0, 0), 30);
    }

    private static int behind(int s) {
        return (int) ((s * 2741L + 9337) % 65536);
    }

    private static void drawsOfAllSeeds() {
        SnowForts x = null;
        for (int seed = 0; seed < 10000; seed++) {
            if (seed % 80 == 0) {
                x = taken("wide 2 high 1;", "storm 0 to 40;", 1);
            }
            x.mark();
            x.run(seed);
            Check.due("the draw by seed " + seed, x.cell(0, 0, 0), behind(seed) / 8 % 41);
            x.back();
        }
    }

    private static void drawsByAllWidths() {
        for (int first = 0; first <= 40; first++) {
            for (int second = first; second <= 40; second += 3) {
                int seed = first * 241 + second;
                SnowForts x = taken("wide 2 high 1;", "storm " + first + " to " + second + ";", 1);
                x.run(seed);
                Check.due("storm " + first + " to " + second, x.cell(0, 0, 0), first + behind(seed) / 8 % (second - first + 1));
            }
        }
        // the least and the most of a storm are both drawn by some seed
        boolean[] drawn = new boolean[4];
        for (int seed = 0; seed < 60; seed++) {
            SnowForts x = taken("wide 2 high 1;", "storm 7 to 9;", 1);
            x.run(seed);
            int n = x.cell(0, 0, 0) - 7;
            Check.due("within 7 to 9", n >= 0 && n <= 2, true);
            drawn[n & 3] = true;
        }
        Check.due("7, 8, 9 are drawn", drawn[0] && drawn[1] && drawn[2], true);
    }

    /** Each storm takes one draw, in the order in which they are done; a run begins at its seed again. */
    private static void drawsGoOn() {
        for (int seed = 3; seed < 10000; seed += 833) {
            SnowForts x = taken("wide 2 high 1;", "loop 30;storm 0 to 1;thaw 1;storm 2 to 2;thaw 2;end;when day=9;storm 0 to 9;end;"
                + "storm 0 to 40;", 8);
            x.run(seed);
            int s = seed;
            int fell = 0;
            for (int round = 0; round < 30; round++) {
                s = behind(s);
                fell += s / 8 % 2;
                s = behind(s);
                fell += 2;
            }
            s = behind(s);
            fell += s / 8 % 41;
            Check.due("fell by seed " + seed, x.many(9), 2 * fell);
            x.run(seed);
            Check.due("fell by the seed again", x.many(9), 4 * fell);
        }
    }

    // ---- what is missed

    private static void missed(String yard, String orders, int steps, int missed) {
        SnowForts x = taken(yard, orders, steps);
        Check.due("run(0) of " + orders, x, x.run(0), steps, 0);
        Check.due("MISSED of " + orders, x, x.ran(0), missed, 0);
    }

    private static void whatIsMissed() {
        String poor = "wide 2 high 1;school a hands 0;school b hands 1;snow 0 0 deep 9;wall 0 0 tall 9;wall 1 0 tall 99;";
        missed(poor, "build 0 0 by 1;", 1, 1);
        missed(poor, "ice 0 0;", 1, 1);
        missed(poor, "ice 1 0;", 1, 1);
        missed(poor, "steal 0 0 from 1 0 by 1;", 1, 1);
        missed(poor, "build 1 0 by 1;", 1, 1);
        missed(poor, "fall 1;build 1 0 by 1;", 2, 1);
        String rich = "wide 2 high 1;school a hands 40;school b hands 40;";
        missed(rich, "build 0 0 by 1;", 1, 1);
        missed(rich, "ice 0 0;", 1, 1);
        missed(rich, "steal 0 0 from 1 0 by 40;", 1, 1);
        missed(rich, "fall 1;build 0 0 by 1;ice 0 0;ice 0 0;", 4, 1);
        missed(rich, "fall 1;build 0 0 by 1;build 0 0 by 1;", 3, 1);
        missed(rich, "fall 1;steal 0 0 from 1 0 by 1;steal 0 0 from 1 0 by 1;", 3, 1);
        missed(rich, "build 0 0 by 1;ice 0 0;steal 0 0 from 1 0 by 40;build 1 0 by 9;", 4, 4);
        SnowForts x = taken(rich, "loop 99;night;night;night;end;", 4);
        for (int i = 0; i < 3; i++) {
            Check.due("298 steps", x.run(0), 298);
            Check.due("none missed", x.ran(0), 0);
        }
        Check.orders(x, "loop 26;night;night;night;night;end;night;night;night;");
        x.run(0);
        Check.due("the last one at DAY 998", x.ran(0), 0);
        Check.due("DAY 998", x.many(3), 998);
        Check.orders(x, "night;night;night;");
        x.run(0);
        Check.due("two nights at DAY 999", x.ran(0), 2);
        Check.due("DAY 999", x.many(3), 999);
    }

    /** Less than was asked for is not missed; nor is what always can be. */
    private static void whatIsNotMissed() {
        String yard = "wide 2 high 1;school a hands 5;school b hands 1;snow 0 0 deep 2;wall 0 0 tall 1;snow 1 0 deep 1;wall 1 0 tall 98;";
        missed(yard, "build 0 0 by 40;", 1, 0);
        missed(yard, "build 1 0 by 40;", 1, 0);
        missed(yard, "steal 0 0 from 1 0 by 40;", 1, 0);
        missed(yard, "ice 0 0;ice 1 0;", 2, 1);
        missed(yard, "fall 0;thaw 0;thaw 40;thaw 40;thaw 40;thaw 40;night;fall 40;fall 40;fall 40;storm 40 to 40;", 11, 0);
        missed(yard, "loop 1;end;when breach;end;when day>9;end;stop;", 4, 0);
        missed("wide 2 high 1;school a hands 9;no wall above 0;no build behind 0;no steal;no ice above 0;snow 0 0 deep 2;"
            + "snow 1 0 deep 2;", "build 0 0 by 1;ice 0 0;steal 0 0 from 1 0 by 2;", 3, 0);
    }

    // ---- tests

    /** Whether a test holds behind some steps: a fall then, by which it is seen. */
    private static boolean holds(String yard, String ahead, String test) {
        SnowForts x = Check.forts(yard);
        Check.orders(x, ahead + "when " + test + ";fall 1;end;");
        Check.due("taken: " + ahead + test, x.status(), 0);
        x.run(0);
        return x.many(9) > 0;
    }

    private static void compared(String yard, String ahead, String test, int value, int greatest) {
        for (int limit : new int[] {0, 1, value - 1, value, value + 1, greatest - 1, greatest}) {
            if (limit >= 0 && limit <= greatest) {
                Check.due(test + "<" + limit, holds(yard, ahead, test + "<" + limit), value < limit);
                Check.due(test + "=" + limit, holds(yard, ahead, test + "=" + limit), value == limit);
                Check.due(test + ">" + limit, holds(yard, ahead, test + " > " + limit), value > limit);
            }
        }
    }

    private static void testsOfDays() {
        compared(YARD, "", "day", 0, 999);
        compared(YARD, "night;", "day", 1, 999);
        compared(YARD, "loop 97;night;night;night;end;", "day", 291, 999);
        SnowForts x = taken(YARD, "loop 74;night;night;night;night;end;", 5);
        for (int i = 0; i < 4; i++) {
            x.run(0);
        }
        Check.due("the last day", x.many(3), 999);
        Check.orders(x, "when day=999;fall 1;end;when day<999;fall 2;end;when day>999;fall 4;end;when day>998;fall 8;end;");
        x.run(0);
        Check.due("tests at DAY 999", x.cell(0, 0, 0), 9);
    }

    private static void testsOfWalls() {
        for (int wall : new int[] {0, 1, 50, 98, 99}) {
            String yard = YARD + "wall 0 1 tall " + wall + ";wall 1 0 tall 7;wall 1 1 tall 8;wall 0 0 tall 9;snow 0 1 deep 5;";
            compared(yard, "", "wall 0 1", wall, 99);
        }
        compared(YARD + "wall 3 1 tall 4;snow 3 1 deep 9;", "build 3 1 by 2;", "wall 3 1", 6, 99);
        compared(YARD + "wall 3 1 tall 4;", "thaw 9;", "wall 3 1", 0, 99);
        compared(YARD + "wall 3 1 tall 4;", "ice 3 1;thaw 9;", "wall 3 1", 4, 99);
    }

    private static void testsOfWays() {
        compared("wide 2 high 1;", "", "way", 0, 999);
        compared("wide 2 high 1;wall 0 0 tall 9;", "", "way", 11, 999);
        compared("wide 2 high 1;wall 0 0 tall 9;", "thaw 6;", "way", 3, 999);
        compared("wide 2 high 1;wall 0 0 tall 99;snow 0 0 deep 99;wall 1 0 tall 99;snow 1 0 deep 99;", "", "way", 200, 999);
        // a costly one: 198 up, down, up, down, out
        compared("wide 6 high 1;wall 0 0 tall 99;snow 0 0 deep 99;wall 2 0 tall 99;snow 2 0 deep 99;wall 4 0 tall 99;"
            + "snow 4 0 deep 99;", "", "way", 600, 999);
    }

    private static void testsOfBreaches() {
        String yard = "wide 2 high 1;school a hands 40;school b hands 40;no wall above 2;snow 0 0 deep 9;";
        Check.due("none", holds(yard, "", "breach"), false);
        Check.due("none by what may be built", holds(yard, "build 0 0 by 2;", "breach"), false);
        Check.due("one", holds(yard, "build 0 0 by 3;", "breach"), true);
        Check.due("one of a day ahead", holds(yard, "build 0 0 by 3;night;night;", "breach"), true);
        SnowForts x = Check.forts(yard);
        x.build(0, 0, 3);
        Check.orders(x, "when breach;fall 1;end;");
        x.run(0);
        Check.due("one ahead of the run", x.many(9), 2);
        Check.due("it is not of the run", x, x.ran(2), 0, 0);
    }

    // ---- what is done, and how often

    private static int done(String orders) {
        SnowForts x = Check.forts(YARD);
        Check.orders(x, orders);
        Check.due("taken: " + orders, x.status(), 0);
        int steps = x.run(0);
        Check.due("done: " + orders, x.status(), 0);
        return steps;
    }

    private static void skippedSteps() {
        Check.due("a when that does not hold", done("when day>0;night;night;end;"), 1);
        Check.due("with what is behind it", done("when day>0;night;end;fall 1;"), 2);
        Check.due("with whens within it", done("when day>0;when day=0;night;end;loop 9;night;end;end;fall 1;"), 2);
        Check.due("within one that holds", done("when day=0;when day>0;night;end;fall 1;end;fall 1;"), 4);
        Check.due("at a loop's end", done("loop 5;night;when day>9;stop;end;end;fall 1;"), 12);
        Check.due("loops within it are not begun", done("when day>0;loop 99;night;end;end;"), 1);
        Check.due("empty ones", done("when day=0;end;when day>0;end;"), 2);
        Check.due("its own night ends it", done("when day=0;night;end;when day=0;night;end;"), 3);
    }

    private static void roundsOfLoops() {
        for (int often : new int[] {1, 2, 3, 50, 98, 99}) {
            SnowForts x = taken(YARD, "loop " + often + ";night;end;fall 1;", 3);
            Check.due("loop " + often, x.run(0), often + 2);
            Check.due("the day", x.many(3), often);
        }
        Check.due("an empty loop", done("loop 99;end;"), 1);
        Check.due("empty loops, three deep", done("loop 6;loop 6;loop 6;end;end;end;"), 1 + 6 * (1 + 6));
        Check.due("three deep", done("loop 3;loop 4;loop 5;night;end;end;end;"), 1 + 3 * (1 + 4 * (1 + 5)));
        Check.due("one behind another", done("loop 3;loop 2;night;end;loop 4;night;end;end;"), 1 + 3 * (3 + 5));
        Check.due("a loop that is skipped at times",
            done("loop 4;when day<2;loop 3;fall 0;end;end;night;end;"), 1 + 4 * 2 + 2 * 4);
        SnowForts x = taken(YARD, "loop 7;night;end;", 2);
        x.run(0);
        x.run(0);
        Check.due("as often by the next run", x.many(3), 14);
    }

    private static void stopsEverywhere() {
        Check.due("a stop alone", done("stop;"), 1);
        Check.due("the first of two", done("stop;stop;"), 1);
        Check.due("within a loop", done("loop 9;stop;end;night;"), 2);
        Check.due("three deep", done("loop 9;when day=0;loop 9;night;stop;end;end;end;night;"), 5);
        Check.due("one that is skipped", done("when day>0;stop;end;night;"), 2);
        SnowForts x = taken(YARD, "loop 9;night;when day=4;stop;end;end;fall 9;", 5);
        Check.due("steps", x.run(0), 1 + 4 * 2 + 1);
        Check.due("no more nights", x.many(3), 4);
        Check.due("it fell no more", x.many(9), 0);
        Check.due("nothing is left to be done", x, x.ran(3), 0, 0);
        x = taken(YARD, "night;stop;night;", 3);
        x.run(0);
        x.run(0);
        Check.due("by the next run it is begun anew", x.many(3), 2);
    }

    private static void threeHundredSteps() {
        for (int more = 0; more <= 5; more++) {
            // 1 + 59 * 5 = 296
            SnowForts x = taken(YARD, "loop 59;night;night;night;night;night;end;" + nights(more), 6 + more);
            Check.due("so many steps", x, x.run(0), Math.min(300, 296 + more), 0);
            Check.due("so many nights", x.many(3), Math.min(299, 295 + more));
            Check.due("one is left", x, x.ran(3), more == 5 ? 1 : 0, 0);
        }
        SnowForts x = taken(YARD, "loop 99;loop 99;night;end;end;", 3);
        Check.due("two loops", x, x.run(0), 300, 0);
        Check.due("nights", x.many(3), 300 - 1 - 3);
        Check.due("one is left", x, x.ran(3), 1, 0);
        Check.due("the next run has 300 again", x, x.run(0), 300, 0);
        Check.due("nights", x.many(3), 2 * (300 - 1 - 3));
    }

    private static void loopsCountOnce() {
        // each round of a loop that is come to from its end is no step
        Check.due("99 rounds of one night", done("loop 99;night;end;"), 100);
        Check.due("99 rounds of a when", done("loop 99;when day>0;night;end;end;"), 100);
        Check.due("99 rounds of a when that holds", done("loop 99;when day=0;fall 0;end;end;"), 199);
        Check.due("a loop within counts each time", done("loop 99;loop 1;end;end;"), 100);
        Check.due("299 and an empty loop", done("loop 99;night;night;night;end;fall 0;loop 99;end;"), 300);
    }

    /** ran(3) at 299, 300, 301 for each kind of a step that would be the next. */
    private static void stepLeftToBeDone() {
        String[] last = {"fall 0;", "thaw 0;", "storm 0 to 0;", "build 0 0 by 1;", "ice 0 0;", "steal 0 0 from 3 0 by 1;", "night;",
            "when day=0;end;", "when day>0;end;", "when breach;night;end;", "loop 99;end;", "stop;"};
        String most = "loop 99;fall 0;fall 0;fall 0;end;";
        for (String step : last) {
            left(most + step, 299, 0);
            left(most + "fall 0;" + step, 300, 0);
            left(most + "fall 0;fall 0;" + step, 300, 1);
        }
        left(most + "stop;fall 0;fall 0;fall 0;", 299, 0);
        left(most + "fall 0;stop;fall 0;", 300, 0);
        left(most + "fall 0;loop 1;night;end;", 300, 1);
        left(most + "fall 0;when breach;night;end;night;", 300, 1);
        left(most + "loop 1;fall 0;end;", 300, 0);
        left(most + "loop 1;fall 0;end;night;", 300, 1);
        left(most + "loop 2;fall 0;end;", 300, 1);
        left(most + "loop 2;when breach;end;end;", 300, 1);
        left(most + "when day=0;loop 1;loop 1;end;end;end;", 300, 1);
        left("loop 99;loop 99;fall 0;end;end;", 300, 1);
        left("", 0, 0);
    }

    private static void left(String orders, int steps, int left) {
        SnowForts x = Check.forts(YARD);
        Check.orders(x, orders);
        Check.due("steps of " + orders, x, x.run(0), steps, 0);
        Check.due("left of " + orders, x, x.ran(3), left, 0);
    }

    private static void whatRanTells() {
        SnowForts x = new SnowForts();
        for (int what = -1; what <= 4; what++) {
            Check.due("ran(" + what + ") ahead of any", x, x.ran(what), -1, what < 0 || what > 3 ? 5 : 8);
        }
        x = taken("wide 2 high 1;school a hands 40;school b hands 40;no wall above 2;no steal;no build behind 9;no ice above 0;"
            + "snow 0 0 deep 5;snow 1 0 deep 9;", "build 0 0 by 9;build 0 0 by 1;ice 0 0;steal 0 0 from 1 0 by 3;"
            + "build 0 0 by 40;", 5);
        Check.due("run(0)", x, x.run(0), 5, 0);
        Check.due("MISSED", x, x.ran(0), 1, 0);
        Check.due("units built", x, x.ran(1), 5 + 3, 0);
        // hands: 5 units (3 above 2), ice 2, two of a steal: 9; then 3 units, each above both
        Check.due("BREACHES in it", x, x.ran(2), 3 + 1 + 2 + 3 + 3, 0);
        Check.due("none left", x, x.ran(3), 0, 0);
        Check.due("BREACHES at all", x.many(4), 12);
        for (int what : new int[] {Integer.MIN_VALUE, -1, 4, 5, 256, Integer.MAX_VALUE}) {
            Check.due("ran(" + what + ")", x, x.ran(what), -1, 5);
        }
        x.run(10000);
        Check.due("behind a run with 5", x, x.ran(1), 8, 0);
        Check.taken("another yard", x, true, "wide 2 high 1;", 2);
        x.run(0);
        Check.due("behind a run with 8", x, x.ran(1), 8, 0);
        Check.taken("orders alone", x, false, "night;", 1);
        Check.due("are no run", x, x.ran(1), 8, 0);
        x.peaces(0, 3);
        Check.due("nor is peaces()", x, x.ran(1), 8, 0);
        x.run(0);
        Check.due("the latest one", x, x.ran(1), 0, 0);
        Check.due("the latest one", x, x.ran(0), 0, 0);
        Check.due("the latest one", x, x.ran(2), 0, 0);
    }

    private static void runsFollowOneAnother() {
        SnowForts x = taken("wide 2 high 1;school a hands 2;school b hands 2;no build behind 1;", "fall 3;build 0 0 by 2;", 2);
        int[] walls = {2, 2, 2};
        int[] missed = {0, 1, 1};
        for (int i = 0; i < 3; i++) {
            x.run(i);
            Check.due("all stays: WALL", x.cell(0, 0, 1), walls[i]);
            Check.due("all stays: SNOW", x.cell(1, 0, 0), 3 * (i + 1));
            Check.due("MISSED of this run", x, x.ran(0), missed[i], 0);
            Check.due("units of this run", x, x.ran(1), i == 0 ? 2 : 0, 0);
            Check.due("BREACHES of this run", x, x.ran(2), i == 0 ? 1 : 0, 0);
            Check.due("all BREACHES", x.many(4), 1);
        }
        x.night();
        x.run(0);
        Check.due("by the hands of another day", x, x.ran(1), 2, 0);
        Check.due("its BREACHES", x, x.ran(2), 1, 0);
        Check.due("all BREACHES", x.many(4), 2);
        Check.due("the FIRST one is of DAY 0", x.breach(2), 0);
    }

    // ---- peaces

    private static void seedsOfPeaces() {
        SnowForts none = new SnowForts();
        SnowForts x = taken("wide 2 high 1;", "fall 1;", 1);
        int[][] wrong = {{-1, 1}, {-1, 2}, {10000, 1}, {0, 0}, {0, -1}, {0, 21}, {9999, 2}, {9980, 21}, {9981, 20}, {9990, 11},
            {Integer.MAX_VALUE, 1}, {Integer.MAX_VALUE, Integer.MAX_VALUE}, {0, Integer.MAX_VALUE}, {0, Integer.MIN_VALUE},
            {Integer.MIN_VALUE, 1}, {9999, 65537}};
        for (int[] each : wrong) {
            String call = "peaces(" + each[0] + ", " + each[1] + ")";
            Check.due(call, x, x.peaces(each[0], each[1]), false, 5);
            Check.due(call + " without ORDERS", none, none.peaces(each[0], each[1]), false, 5);
            Check.due("the FRACTION is as it was", x.top(), 0);
        }
        int[][] right = {{0, 1}, {0, 20}, {9999, 1}, {9998, 2}, {9980, 20}, {9981, 19}, {9990, 10}};
        for (int[] each : right) {
            String call = "peaces(" + each[0] + ", " + each[1] + ")";
            Check.due(call, x, x.peaces(each[0], each[1]), true, 0);
            Check.due("top", x.top(), 1);
            Check.due("bottom", x.bottom(), 1);
            Check.due(call + " without ORDERS", none, none.peaces(each[0], each[1]), false, 8);
            Check.due("the FRACTION is as it was", none.top(), 0);
            Check.due("the FRACTION is as it was", none.bottom(), 1);
        }
    }

    /** A storm of 0 to 9: a COST of 1 to 3 for these, of 4 and 2 above: peace for a draw of 0 to 3 alone. */
    private static void fractionsOfPeaces() {
        for (int seed = 0; seed <= 9980; seed += 499) {
            for (int many = 1; many <= 20; many++) {
                SnowForts x = taken("wide 2 high 1;", "storm 0 to 9;", 1);
                int peaceful = 0;
                for (int i = seed; i < seed + many; i++) {
                    peaceful += behind(i) / 8 % 10 <= 3 ? 1 : 0;
                }
                Check.due("peaces(" + seed + ", " + many + ")", x, x.peaces(seed, many), true, 0);
                int divisor = many;
                while (peaceful % divisor != 0 || many % divisor != 0) {
                    divisor--;
                }
                Check.due("top", x.top(), peaceful / divisor);
                Check.due("bottom", x.bottom(), many / divisor);
            }
        }
        // a COST of 4 is peace, 5 is none: 4 up needs 2 down, so by two steps of 2 up and out
        String steps = "wide 4 high 1;wall 0 0 tall 2;wall 1 0 tall 4;wall 2 0 tall 2;wall 3 0 tall 2;";
        SnowForts x = taken(steps, "", 0);
        Check.due("the COST", x.way(), 4);
        Check.due("peace()", x, x.peace(), 1, 0);
        x.peaces(5, 20);
        Check.due("of all", x.top(), 1);
        Check.due("of all", x.bottom(), 1);
        x = taken(steps.replace("wall 1 0 tall 4", "wall 1 0 tall 5"), "", 0);
        Check.due("the COST", x.way(), 5);
        Check.due("peace()", x, x.peace(), 0, 0);
        x.peaces(5, 20);
        Check.due("of none", x.top(), 0);
        Check.due("of none", x.bottom(), 1);
    }

    private static void allStaysBehindPeaces() {
        for (String orders : new String[] {"fall 9;night;build 0 0 by 3;", "thaw 40;thaw 40;", "ice 1 1;ice 0 1;steal 0 0 from 1 0 by 9;",
            "night;storm 0 to 9;build 1 0 by 40;", "stop;", "loop 99;night;fall 1;thaw 1;end;"}) {
            SnowForts asked = Twins.full();
            SnowForts other = Twins.full();
            for (SnowForts each : new SnowForts[] {asked, other}) {
                each.yard(0);
                Check.orders(each, orders);
                // a fraction that peaces() tells too
                Check.row(each, 3, 0, 16, 0, 0);
            }
            Check.due("peaces(7, 20)", asked, asked.peaces(7, 20), true, 0);
            asked.mean(1, 1, 3);
            other.mean(1, 1, 3);
            Twins.alike("behind peaces() of " + orders, asked, other);
        }
    }
}
