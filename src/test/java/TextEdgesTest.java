/** Promises 9 to 17, sentence by sentence: the tape, its tokens, each number of a yard's text, each FAULT and its place. */
public final class TextEdgesTest {
    private static final String PLAIN = "wide 4 high 3;";
    private static final int BEHIND = PLAIN.length();
    private static final String[] WORDS = {"wide", "high", "school", "hands", "snow", "deep", "wall", "tall", "sun", "by",
        "no", "above", "build", "behind", "steal", "ice", "fall", "thaw", "storm", "to", "night", "from", "when", "day",
        "breach", "way", "loop", "end", "stop"};

    public static void main(String[] args) {
        highestByteFirst();
        tapeOf900Bytes();
        tapeIsKeptBehind5();
        tapeIsEmptyThen();
        onlyTheFirstBytes();
        faultAheadOfAny();
        faultOfTheLatest();
        faultOfOtherWhats();
        eachByteAsAToken();
        blanksBetweenTokens();
        tokensAsLongAsTheyGo();
        digitsOfANumber();
        lettersOfAName();
        namesThatAreWords();
        namesThatAreTaken();
        wideAndHigh();
        handsOfASchool();
        schoolsAtMostTwo();
        placesOfCells();
        heapsOfCells();
        cellsToldAlready();
        numbersOfArticles();
        articlesToldAlready();
        endOfTheText();
        tokenThatCantStand();
        firstAlongTheText();
        yardOf900Bytes();
        yardTakesThePlaceOfAll();
        faultChangesNothingElse();
        Check.end("TextEdgesTest");
    }

    private static void yardFault(String why, String text, int kind, int place) {
        Check.faulty(why, new SnowForts(), true, text, kind, place);
    }

    private static SnowForts yardTaken(String why, String text, int cells) {
        SnowForts x = new SnowForts();
        Check.taken(why, x, true, text, cells);
        return x;
    }

    private static void highestByteFirst() {
        // 20 bytes: "wide 2 high 6;      "
        SnowForts x = new SnowForts();
        Check.due("feed()", x.feed(0x77696465, 0x20322068, 0x69676820, 0x363b2020, 0x20202020), 20);
        Check.due("yard(14)", x, x.yard(14), 12, 0);
        Check.due("high", x.many(1), 6);
        // each int's bytes the other way round
        x.feed(0x65646977, 0x68203220, 0x20686769, 0x20203b36, 0x20202020);
        Check.due("yard(14)", x, x.yard(14), -1, 10);
        // one wrong byte at each place is found at that place
        int[] spaces = {0x20202020, 0x20202020, 0x20202020, 0x20202020, 0x20202020};
        for (int at = 0; at < 20; at++) {
            int[] four = spaces.clone();
            four[at / 4] |= 0xff << 24 - at % 4 * 8;
            x.feed(four[0], four[1], four[2], four[3], four[4]);
            Check.due("a byte 255 at " + at, x, x.yard(20), -1, 10);
            Check.due("fault(0)", x.fault(0), 1);
            Check.due("fault(1)", x.fault(1), at);
        }
    }

    private static void tapeOf900Bytes() {
        SnowForts x = new SnowForts();
        int spaces = 0x20202020;
        for (int fed = 20; fed <= 880; fed += 20) {
            Check.due("feed() to " + fed, x.feed(spaces, spaces, spaces, spaces, spaces), fed);
        }
        Check.due("the last twenty", x.feed(spaces, 0x77696465, 0x20362068, 0x69676820, 0x20202036), 900);
        for (int i = 0; i < 3; i++) {
            Check.due("twenty above 900", x.feed(0x3b3b3b3b, 0x3b3b3b3b, 0x3b3b3b3b, 0x3b3b3b3b, 0x3b3b3b3b), -1);
        }
        Check.due("901 bytes", x, x.yard(901), -1, 5);
        // the text lacks its sign alone: nothing of what was above 900 is on the tape
        Check.due("900 bytes", x, x.yard(900), -1, 10);
        Check.due("fault(0)", x.fault(0), 2);
        Check.due("fault(1)", x.fault(1), 900);
        Check.due("none is left", x.feed(0, 0, 0, 0, 0), 20);
    }

    private static void tapeIsKeptBehind5() {
        SnowForts x = new SnowForts();
        int n = Check.put(x, PLAIN);
        Check.due("yard(-1)", x, x.yard(-1), -1, 5);
        Check.due("yard(least)", x, x.yard(Integer.MIN_VALUE), -1, 5);
        Check.due("yard(21)", x, x.yard(21), -1, 5);
        Check.due("yard(greatest)", x, x.yard(Integer.MAX_VALUE), -1, 5);
        Check.due("orders(-1)", x, x.orders(-1), -1, 5);
        Check.due("orders(21)", x, x.orders(21), -1, 5);
        Check.due("orders(301)", x, x.orders(301), -1, 5);
        Check.due("it is all there", x, x.yard(n), 12, 0);
    }

    private static void tapeIsEmptyThen() {
        SnowForts x = new SnowForts();
        Check.put(x, PLAIN + PLAIN);
        Check.due("taken", x, x.yard(BEHIND), 12, 0);
        Check.due("empty behind a yard", x, x.yard(1), -1, 5);
        Check.due("empty behind a yard", x.feed(0, 0, 0, 0, 0), 20);
        Check.due("a fault", x, x.yard(1), -1, 10);
        Check.due("empty behind a fault", x, x.yard(1), -1, 5);
        Check.put(x, "fall 1;fall 2;");
        Check.due("taken", x, x.orders(7), 1, 0);
        Check.due("empty behind orders", x, x.orders(1), -1, 5);
        Check.put(x, "fall 99;");
        Check.due("a fault", x, x.orders(8), -1, 10);
        Check.due("empty behind a fault of orders", x, x.orders(1), -1, 5);
    }

    private static void onlyTheFirstBytes() {
        SnowForts x = new SnowForts();
        Check.put(x, "wide 4 high 3;wide");
        Check.due("the text ends ahead of what can't stand", x, x.yard(14), 12, 0);
        Check.put(x, "wide 4 high 3;school ab hands 12;");
        Check.due("the text ends within a part", x, x.yard(24), -1, 10);
        Check.due("at its length", x.fault(1), 24);
        Check.put(x, "wide 4 high 3;school ab hands 12;");
        Check.due("the text ends within a word", x, x.yard(25), -1, 10);
        Check.due("the word's rest is another word", x.fault(1), 24);
        Check.put(x, "wide 2 high 1;sun 0 0 by 12;");
        Check.due("the text ends within a number", x, x.yard(26), -1, 10);
        Check.due("at its length, not 4 at the number", x.fault(0), 2);
        Check.due("at its length, not 4 at the number", x.fault(1), 26);
    }

    private static void faultAheadOfAny() {
        SnowForts x = new SnowForts();
        Check.due("fault(0)", x.fault(0), -1);
        Check.due("fault(1)", x.fault(1), -1);
        x.yard(1);
        x.orders(1);
        x.yard(-1);
        Check.due("fault(0) behind 5 alone", x.fault(0), -1);
        Check.due("fault(1) behind 5 alone", x.fault(1), -1);
    }

    private static void faultOfTheLatest() {
        SnowForts x = new SnowForts();
        Check.yard(x, "wide 4 high 3;snow 4");
        Check.due("fault(0)", x.fault(0), 4);
        Check.due("fault(1)", x.fault(1), 19);
        x.yard(1);
        x.orders(-1);
        Check.due("fault(0) behind 5", x.fault(0), 4);
        Check.due("fault(1) behind 5", x.fault(1), 19);
        x.orders(0);
        Check.due("fault(0) of orders", x.fault(0), 0);
        Check.due("fault(1) of orders", x.fault(1), -1);
        x.yard(1);
        Check.due("fault(0) behind 5", x.fault(0), 0);
        Check.due("fault(1) behind 5", x.fault(1), -1);
        Check.orders(x, " Q");
        Check.due("fault(0) of orders", x.fault(0), 1);
        Check.due("fault(1) of orders", x.fault(1), 1);
        Check.yard(x, PLAIN);
        Check.due("fault(0) of a yard", x.fault(0), 0);
        Check.due("fault(1) of a yard", x.fault(1), -1);
        Check.yard(x, "");
        Check.due("a place 0 is a place", x.fault(1), 0);
    }

    private static void faultOfOtherWhats() {
        SnowForts x = new SnowForts();
        Check.yard(x, "wide 9");
        for (int what : new int[] {Integer.MIN_VALUE, -1, 2, 3, 256, 65536, Integer.MAX_VALUE}) {
            Check.due("fault(" + what + ")", x.fault(what), -1);
        }
    }

    /** A byte behind a whole yard: a blank is none, a letter, a digit, a sign can't stand there, no other begins a TOKEN. */
    private static void eachByteAsAToken() {
        for (int sign = 0; sign < 256; sign++) {
            String text = PLAIN + (char) sign;
            boolean isToken = sign >= 'a' && sign <= 'z' || sign >= '0' && sign <= '9' || sign >= ';' && sign <= '>';
            if (sign == 10 || sign == 32) {
                yardTaken("a blank " + sign, text, 12);
            } else {
                yardFault("the byte " + sign, text, isToken ? 2 : 1, BEHIND);
            }
        }
    }

    private static void blanksBetweenTokens() {
        yardTaken("no blanks", "wide4high3;snow1 2deep3;no steal;school a hands4;", 12);
        yardTaken("blanks 10", "wide\n4\nhigh\n3\n;", 12);
        yardTaken("many blanks", "  \n wide \n\n 4  high\n 3 ; \n", 12);
        for (char sign : new char[] {9, 11, 12, 13, 31, 33, 127, 133, 160, 255}) {
            yardFault("no blank: " + (int) sign, "wide" + sign + "4 high 3;", 1, 4);
        }
    }

    private static void tokensAsLongAsTheyGo() {
        yardFault("two words without a blank", "widehigh 4", 2, 0);
        yardFault("two numbers without a blank", PLAIN + "snow 11 deep 1;", 4, 19);
        yardFault("a number cut by a blank", "wide 4 high 3 3;", 2, 14);
        yardFault("a word cut by a blank", "wi de 4 high 3;", 2, 0);
        SnowForts x = yardTaken("a number behind a word", "wide2high1;", 2);
        Check.due("wide", x.many(0), 2);
    }

    private static void digitsOfANumber() {
        for (String number : new String[] {"4", "04", "004", "0004"}) {
            yardTaken("digits", "wide " + number + " high 3;", 12);
        }
        for (String number : new String[] {"00004", "000004", "10000", "12345678901234567890", "4294967300"}) {
            yardFault("5 digits and more", "wide " + number + " high 3;", 1, 5);
        }
        yardFault("4 digits that can't be", "wide 9999 high 3;", 4, 5);
        yardFault("5 digits where a word must stand", PLAIN + "00001", 1, BEHIND);
        yardFault("4 digits where a word must stand", PLAIN + "0001", 2, BEHIND);
    }

    private static void lettersOfAName() {
        for (String name : new String[] {"a", "z", "ab", "abcdefg", "abcdefgh", "zzzzzzzz", "aaaaaaaa"}) {
            yardTaken("a name", PLAIN + "school " + name + " hands 1;", 12);
        }
        for (String name : new String[] {"abcdefghi", "aaaaaaaaa", "zzzzzzzzzzzzzzzzzzzzzzzzzzzzzzz"}) {
            yardFault("9 letters and more", PLAIN + "school " + name + " hands 1;", 2, BEHIND + 7);
        }
        for (String name : new String[] {"1", ";", "<", "=", ">"}) {
            yardFault("no word", PLAIN + "school " + name + " hands 1;", 2, BEHIND + 7);
        }
        yardFault("no token", PLAIN + "school A hands 1;", 1, BEHIND + 7);
        yardFault("a name cut by a great letter", PLAIN + "school abCd hands 1;", 1, BEHIND + 9);
        yardFault("no name", PLAIN + "school ", 2, BEHIND + 7);
    }

    private static void namesThatAreWords() {
        for (String word : WORDS) {
            yardFault("a word", PLAIN + "school " + word + " hands 1;", 2, BEHIND + 7);
            yardTaken("a word with a letter more", PLAIN + "school " + word + "x hands 1;", 12);
            yardTaken("a word with a letter ahead", PLAIN + "school x" + word + " hands 1;", 12);
            yardTaken("a word with a letter fewer", PLAIN + "school " + word.substring(1) + " hands 1;", 12);
        }
    }

    private static void namesThatAreTaken() {
        int second = BEHIND + "school abcdefgh hands 1;school ".length();
        yardFault("a name that is taken", PLAIN + "school abcdefgh hands 1;school abcdefgh hands 1;", 3, second);
        yardTaken("its last letter is another", PLAIN + "school abcdefgh hands 1;school abcdefgi hands 1;", 12);
        yardTaken("its first letter is another", PLAIN + "school abcdefgh hands 1;school bbcdefgh hands 1;", 12);
        yardTaken("one is longer", PLAIN + "school abcdefg hands 1;school abcdefgh hands 1;", 12);
        yardTaken("one is a letter more often", PLAIN + "school a hands 1;school aa hands 1;", 12);
        SnowForts x = yardTaken("a name of the yard ahead", PLAIN + "school ab hands 1;", 12);
        Check.taken("is not taken", x, true, PLAIN + "school ab hands 2;", 12);
        Check.faulty("a fault behind the first", x, true, PLAIN + "school cd hands 2;x", 2, BEHIND + 18);
        Check.taken("is not taken", x, true, PLAIN + "school cd hands 2;", 12);
    }

    private static void wideAndHigh() {
        for (int wide = 0; wide <= 9; wide++) {
            for (int high = 0; high <= 9; high++) {
                String text = "wide " + wide + " high " + high + ";";
                if (wide != 2 && wide != 4 && wide != 6) {
                    yardFault("so wide", text, 4, 5);
                } else if (high < 1 || high > 6) {
                    yardFault("so high", text, 4, 12);
                } else {
                    SnowForts x = yardTaken("so wide, so high", text, wide * high);
                    Check.due("wide", x.many(0), wide);
                    Check.due("high", x.many(1), high);
                    Check.due("its last cell", x, x.cell(wide - 1, high - 1, 0), 0, 0);
                    Check.due("none beside it", x, x.cell(wide, high - 1, 0), -1, 2);
                    Check.due("none below it", x, x.cell(wide - 1, high, 0), -1, 2);
                }
            }
        }
        yardFault("258 is not 2", "wide 258 high 1;", 4, 5);
        yardFault("257 is not 1", "wide 2 high 257;", 4, 12);
    }

    private static void handsOfASchool() {
        for (int hands : new int[] {0, 1, 39, 40}) {
            SnowForts x = yardTaken("so many hands", PLAIN + "school a hands " + hands + ";school b hands 3;", 12);
            Check.due("hands", x, x.school(0, 0), hands, 0);
            x = yardTaken("so many hands", PLAIN + "school b hands 3;school a hands " + hands + ";", 12);
            Check.due("hands", x, x.school(1, 0), hands, 0);
        }
        for (int hands : new int[] {41, 42, 99, 100, 256, 9999}) {
            yardFault("so many hands", PLAIN + "school a hands " + hands + ";", 4, BEHIND + 15);
            yardFault("so many hands", PLAIN + "school b hands 3;school a hands " + hands + ";", 4, BEHIND + 32);
        }
    }

    private static void schoolsAtMostTwo() {
        Check.due("none", yardTaken("none", PLAIN, 12).many(2), 0);
        Check.due("one", yardTaken("one", PLAIN + "school a hands 1;", 12).many(2), 1);
        Check.due("two", yardTaken("two", PLAIN + "school a hands 1;school b hands 1;", 12).many(2), 2);
        int third = BEHIND + 34;
        String two = PLAIN + "school a hands 1;school b hands 1;";
        yardFault("a third", two + "school c hands 1;", 6, third);
        yardFault("a third of a name that is taken", two + "school a hands 1;", 6, third);
        yardFault("a third without a name", two + "school", 6, third);
        yardFault("a third with too many hands", two + "school c hands 41;", 6, third);
    }

    private static void placesOfCells() {
        String[] parts = {"snow X Y deep 1;", "wall X Y tall 1;", "sun X Y by 1;"};
        for (String part : parts) {
            int first = BEHIND + part.indexOf('X');
            for (int wide = 2; wide <= 6; wide += 2) {
                for (int high = 1; high <= 6; high++) {
                    String size = "wide " + wide + " high " + high + ";";
                    String last = part.replace("X", "" + (wide - 1)).replace("Y", "" + (high - 1));
                    yardTaken("the last cell", size + last, wide * high);
                    yardTaken("the first cell", size + part.replace('X', '0').replace('Y', '0'), wide * high);
                    yardFault("beside it", size + part.replace("X", "" + wide).replace("Y", "" + (high - 1)), 4, first);
                    yardFault("below it", size + part.replace("X", "" + (wide - 1)).replace("Y", "" + high), 4, first + 2);
                    yardFault("both", size + part.replace("X", "" + wide).replace("Y", "" + high), 4, first);
                }
            }
            yardFault("256 is not 0", PLAIN + part.replace("X", "256"), 4, first);
        }
    }

    private static void heapsOfCells() {
        String[] parts = {"snow 1 2 deep ", "wall 1 2 tall ", "sun 1 2 by "};
        int[] limits = {99, 99, 9};
        for (int what = 0; what < 3; what++) {
            String text = PLAIN + parts[what];
            for (int heap : new int[] {0, 1, limits[what] - 1, limits[what]}) {
                SnowForts x = yardTaken("so much", text + heap + ";", 12);
                Check.due("so much", x, x.cell(1, 2, what), heap, 0);
                Check.due("not ahead of it", x, x.cell(0, 2, what), 0, 0);
                Check.due("not behind it", x, x.cell(2, 2, what), 0, 0);
                Check.due("not across", x, x.cell(2, 1, what), 0, 0);
            }
            for (int heap : new int[] {limits[what] + 1, limits[what] + 2, 256, 9999}) {
                yardFault("too much", text + heap + ";", 4, text.length());
            }
        }
    }

    /** At its y; also if 0 was told; but another heap of the cell, another cell is taken. */
    private static void cellsToldAlready() {
        String[] parts = {"snow 1 2 deep 0;", "wall 1 2 tall 0;", "sun 1 2 by 0;"};
        for (int first = 0; first < 3; first++) {
            int y = BEHIND + parts[first].length() + parts[first].indexOf('2');
            yardFault("told already", PLAIN + parts[first] + parts[first], 5, y);
            yardFault("told already, and no more", PLAIN + parts[first] + parts[first].substring(0, 8), 5, y);
            yardFault("told already, ahead of a number too much",
                PLAIN + parts[first] + parts[first].replace(" 0;", " 100;"), 5, y);
            yardTaken("the cell beside", PLAIN + parts[first] + parts[first].replace("1 2", "2 2"), 12);
            yardTaken("the cell above", PLAIN + parts[first] + parts[first].replace("1 2", "1 1"), 12);
            for (int second = 0; second < 3; second++) {
                if (second != first) {
                    yardTaken("another heap", PLAIN + parts[first] + parts[second], 12);
                }
            }
        }
    }

    private static void numbersOfArticles() {
        String[] articles = {"no wall above ", "no build behind ", null, "no ice above "};
        int[] limits = {20, 40, 0, 18};
        for (int kind = 0; kind < 4; kind++) {
            if (articles[kind] == null) {
                continue;
            }
            for (int limit : new int[] {0, 1, limits[kind] - 1, limits[kind]}) {
                SnowForts x = yardTaken("an article", PLAIN + articles[kind] + limit + ";", 12);
                for (int other = 0; other < 4; other++) {
                    Check.due("article(" + other + ")", x, x.article(other), other == kind ? limit : -1, other == kind ? 0 : 8);
                }
            }
            for (int limit : new int[] {limits[kind] + 1, limits[kind] + 2, 256, 9999}) {
                String text = PLAIN + articles[kind];
                yardFault("an article", text + limit + ";", 4, text.length());
            }
        }
        SnowForts x = yardTaken("no stealing", PLAIN + "no steal;", 12);
        for (int kind = 0; kind < 4; kind++) {
            Check.due("article(" + kind + ")", x, x.article(kind), kind == 2 ? 0 : -1, kind == 2 ? 0 : 8);
        }
    }

    private static void articlesToldAlready() {
        String[] articles = {"no wall above 0;", "no build behind 0;", "no steal;", "no ice above 0;"};
        String[] heads = {"no wall", "no build", "no steal", "no ice"};
        for (int kind = 0; kind < 4; kind++) {
            String first = articles[kind];
            int word = BEHIND + first.length() + 3;
            yardFault("told already", PLAIN + first + first, 5, word);
            yardFault("told already, and no more", PLAIN + first + heads[kind], 5, word);
            yardFault("told already, by another number", PLAIN + first + first.replace('0', '7'), 5, word);
            for (String second : articles) {
                if (!second.equals(first)) {
                    yardTaken("another one", PLAIN + first + second, 12);
                }
            }
        }
        yardTaken("all four", PLAIN + articles[3] + articles[2] + articles[1] + articles[0], 12);
    }

    private static final String[] TOKENS = ("wide 4 high 3 ; school ab hands 9 ; school cd hands 8 ; snow 1 2 deep 3 ; "
        + "wall 1 2 tall 3 ; sun 1 2 by 3 ; no wall above 2 ; no build behind 2 ; no steal ; no ice above 2 ;").split(" ");

    /** Cut behind each of its tokens but those with which it may end. */
    private static void endOfTheText() {
        StringBuilder text = new StringBuilder();
        for (int i = 0; i <= TOKENS.length; i++) {
            boolean mayEnd = i > 0 && TOKENS[i - 1].equals(";");
            for (String blanks : new String[] {"", " ", "\n \n"}) {
                String cut = text + blanks;
                if (mayEnd) {
                    yardTaken("cut", cut, 12);
                } else {
                    yardFault("cut", cut, 2, cut.length());
                }
            }
            if (i < TOKENS.length) {
                text.append(i == 0 ? "" : " ").append(TOKENS[i]);
            }
        }
    }

    private static String with(int at, String other) {
        StringBuilder text = new StringBuilder();
        for (int i = 0; i < TOKENS.length; i++) {
            text.append(i == at ? other : TOKENS[i]).append(' ');
        }
        return text.toString();
    }

    private static int placeOf(int at) {
        int place = 0;
        for (int i = 0; i < at; i++) {
            place += TOKENS[i].length() + 1;
        }
        return place;
    }

    /** In place of each token one of another kind, and a word that is none of those that can stand there. */
    private static void tokenThatCantStand() {
        for (int at = 0; at < TOKENS.length; at++) {
            String token = TOKENS[at];
            int place = placeOf(at);
            boolean isNumber = token.charAt(0) <= '9';
            boolean isName = token.equals("ab") || token.equals("cd");
            yardFault("no token", with(at, "Z"), 1, place);
            yardFault("5 digits", with(at, "00001"), 1, place);
            for (String sign : new String[] {"<", ">", "="}) {
                yardFault("a sign", with(at, sign), 2, place);
            }
            if (!token.equals(";")) {
                yardFault("a sign", with(at, ";"), 2, place);
            }
            if (!isNumber) {
                yardFault("a number", with(at, "3"), 2, place);
            }
            if (!isName) {
                yardFault("another word", with(at, "zz"), 2, place);
            }
            for (String word : WORDS) {
                boolean begins = at > 4 && TOKENS[at - 1].equals(";")
                    && (word.equals("school") || word.equals("snow") || word.equals("wall") || word.equals("sun") || word.equals("no"));
                boolean article = TOKENS[at == 0 ? 0 : at - 1].equals("no")
                    && (word.equals("wall") || word.equals("build") || word.equals("steal") || word.equals("ice"));
                if (!word.equals(token) && !begins && !article) {
                    yardFault("another word", with(at, word), 2, place);
                }
            }
        }
    }

    private static void firstAlongTheText() {
        yardFault("4 ahead of 1", "wide 5 high 3;Q", 4, 5);
        yardFault("2 ahead of 4", "wide wide 5;", 2, 5);
        yardFault("1 ahead of 2", "wide 4 high Q;;", 1, 12);
        yardFault("4 ahead of 2", PLAIN + "snow 4 9", 4, BEHIND + 5);
        yardFault("4 ahead of the end", PLAIN + "snow 3 3", 4, BEHIND + 7);
        yardFault("3 ahead of 4", PLAIN + "school a hands 1;school a hands 41;", 3, BEHIND + 24);
        yardFault("4 ahead of 3", PLAIN + "school a hands 41;school a hands 1;", 4, BEHIND + 15);
        yardFault("5 ahead of 6", PLAIN + "school a hands 1;school b hands 1;no steal;no steal;school c hands 1;", 5,
            BEHIND + 46);
        yardFault("6 ahead of 5", PLAIN + "school a hands 1;school b hands 1;no steal;school c hands 1;no steal;", 6,
            BEHIND + 43);
    }

    private static void yardOf900Bytes() {
        StringBuilder text = new StringBuilder("wide 6 high 6;");
        int cell = 0;
        while (text.length() + "snow 5 5 deep 98;".length() <= 900) {
            String where = cell % 36 % 6 + " " + cell % 36 / 6;
            text.append(cell < 36 ? "snow " + where + " deep 98;" : "sun " + where + " by 7;");
            cell++;
        }
        while (text.length() < 900) {
            text.append('\n');
        }
        SnowForts x = yardTaken("900 bytes", text.toString(), 36);
        Check.due("all its snow", x.many(5), 36 * 98);
        Check.due("its last sun", x.cell((cell - 1) % 6, (cell - 1) % 36 / 6, 2), 7);
        Check.due("none behind that", x.cell(cell % 6, cell % 36 / 6, 2), 0);
        text.setCharAt(899, ';');
        yardFault("its last byte can't stand there", text.toString(), 2, 899);
        StringBuilder signs = new StringBuilder();
        for (int i = 0; i < 900; i++) {
            signs.append('>');
        }
        yardFault("900 tokens", signs.toString(), 2, 0);
    }

    /** DAY 0, no HANDS used, the last night's WALLS as they are, nothing ICED, no BREACHES, no ORDERS, one by one. */
    private static void yardTakesThePlaceOfAll() {
        SnowForts x = Twins.full();
        x.yard(0);
        Check.due("taken", x, Check.yard(x, "wide 2 high 2;school c hands 7;school d hands 6;wall 0 0 tall 5;"), 4, 0);
        Check.due("DAY", x, x.many(3), 0, 0);
        Check.due("HANDS used", x, x.school(0, 1), 0, 0);
        Check.due("HANDS used", x, x.school(1, 1), 0, 0);
        Check.due("HANDS", x, x.school(0, 0), 7, 0);
        Check.due("HANDS", x, x.school(1, 0), 6, 0);
        Check.due("last night's WALL", x, x.cell(0, 0, 3), 5, 0);
        Check.due("last night's WALL", x, x.cell(1, 1, 3), 0, 0);
        Check.due("ICED", x, x.cell(1, 1, 5), 0, 0);
        Check.due("ICED", x, x.school(1, 3), 0, 0);
        Check.due("BREACHES", x, x.many(4), 0, 0);
        Check.due("BREACHES", x, x.school(0, 2) + x.school(1, 2), 0, 0);
        Check.due("the FIRST BREACH", x, x.breach(0), -1, 8);
        Check.due("ORDERS", x, x.run(0), -1, 8);
        for (int kind = 0; kind < 4; kind++) {
            Check.due("ARTICLES", x, x.article(kind), -1, 8);
        }
        int[] sums = {0, 5, 0, 0, 0};
        for (int what = 5; what <= 9; what++) {
            Check.due("many(" + what + ")", x, x.many(what), sums[what - 5], 0);
        }
        Check.due("SUN", x, x.cell(0, 1, 2), 0, 0);
        Check.due("what LOOKS know", x, x.hiding(0), 1, 0);
    }

    private static void faultChangesNothingElse() {
        String most = "wide 6 high 6;school x hands 1;school y hands 1;snow 0 0 deep 1;wall 1 1 tall 1;sun 1 1 by 9;"
            + "no wall above 1;no build behind 1;no steal;no ice above 1;";
        Twins.faulty(true, most + "Q");
        Twins.faulty(true, most + "snow");
        Twins.faulty(true, most + "snow 6");
        Twins.faulty(true, most + "no steal");
        Twins.faulty(true, most + "school");
        Twins.faulty(true, "wide 6 high 6;school x hands 1;school x");
        Twins.faulty(true, "wide 2 high 1;no");
        Twins.faulty(false, "fall 1;loop 2;night;");
        Twins.faulty(false, "fall 1;build 0 0 by 1;when breach;stop;end;ice 1 1;Q");
        Twins.faulty(false, "thaw 1;build 2");
        Twins.faulty(false, "loop 1;loop 1;loop 1;loop");
        Twins.faulty(false, "stop;".repeat(30) + "stop;");
    }
}
