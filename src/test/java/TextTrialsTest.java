import java.util.ArrayList;
import java.util.HashSet;
import java.util.List;
import java.util.Random;
import java.util.Set;
import java.util.regex.Matcher;
import java.util.regex.Pattern;

/** Promises 10 to 12 by trials: texts with a token changed here and there, beside a plain model of the FAULTS. */
public final class TextTrialsTest {
    private static final Set<String> WORDS = new HashSet<>(List.of("wide", "high", "school", "hands", "snow", "deep", "wall",
        "tall", "sun", "by", "no", "above", "build", "behind", "steal", "ice", "fall", "thaw", "storm", "to", "night", "from",
        "when", "day", "breach", "way", "loop", "end", "stop"));
    private static final Pattern TOKEN = Pattern.compile("[ \n]*([a-z]+|[0-9]+|[^ \n]|$)", Pattern.DOTALL);
    private static final String[] ODD = {"wide", "school", "snow", "wall", "sun", "no", "steal", "ice", "build", "by", "to", "end",
        "loop", "when", "night", "stop", "breach", "day", "zz", "abcdefghi", "0", "1", "2", "3", "5", "6", "9", "10", "40", "41",
        "99", "100", "999", "1000", "00001", "0004", ";", "<", ">", "=", "!", "A", "\t", "\u00e9", " ", "\n"};

    private final List<String> texts = new ArrayList<>();
    private final List<Integer> places = new ArrayList<>();
    private int at;
    /** The first FAULT along the text. */
    private int kind;
    private int place;

    private int wide;
    private int high;
    private int schools;
    private int steps;

    private TextTrialsTest(String text) {
        Matcher matcher = TOKEN.matcher(text);
        boolean ended = false;
        while (!ended && matcher.find()) {
            texts.add(matcher.group(1));
            places.add(matcher.start(1));
            ended = matcher.group(1).isEmpty();
        }
    }

    public static void main(String[] args) {
        Random draws = new Random(20261119);
        int[] faults = new int[8];
        for (int trial = 0; trial < 40000; trial++) {
            tryYard(draws, faults);
        }
        everyKind("YARD", faults, 6);
        faults = new int[8];
        for (int trial = 0; trial < 60000; trial++) {
            tryOrders(draws, faults);
        }
        everyKind("ORDERS", faults, 7);
        Check.end("TextTrialsTest");
    }

    /** The trials come to each kind, and to none, often enough. */
    private static void everyKind(String what, int[] faults, int greatest) {
        for (int kind = 0; kind <= greatest; kind++) {
            boolean isKind = what.equals("YARD") || kind != 3 && kind != 5;
            Check.due(what + " with " + kind + " often enough", faults[kind] >= 100, isKind);
        }
    }

    // ---- trials

    private static void tryYard(Random draws, int[] faults) {
        String text = changed(draws, someYard(draws));
        if (text.length() > 900) {
            return;
        }
        TextTrialsTest model = new TextTrialsTest(text);
        model.readYard();
        SnowForts x = new SnowForts();
        Check.put(x, text);
        int answer = x.yard(text.length());
        model.compare(text, x, answer, model.wide * model.high);
        faults[model.kind]++;
        if (model.kind == 0) {
            Check.due("WIDE of " + text, x.many(0), model.wide);
            Check.due("SCHOOLS of " + text, x.many(2), model.schools);
        }
    }

    private static void tryOrders(Random draws, int[] faults) {
        int wide = 2 + 2 * draws.nextInt(3);
        int high = 1 + draws.nextInt(6);
        int schools = draws.nextInt(4) % 3;
        String[] names = {"", "school a hands 9;", "school a hands 9;school b hands 9;"};
        String text = changed(draws, someOrders(draws, wide, high));
        if (text.length() > 300) {
            return;
        }
        TextTrialsTest model = new TextTrialsTest(text);
        model.wide = wide;
        model.high = high;
        model.schools = schools;
        model.readOrders();
        SnowForts x = Check.forts("wide " + wide + " high " + high + ";" + names[schools]);
        Check.put(x, text);
        int answer = x.orders(text.length());
        model.compare(text, x, answer, model.steps);
        faults[model.kind]++;
    }

    private void compare(String text, SnowForts x, int answer, int due) {
        Check.due("answer to " + text, x, answer, kind == 0 ? due : -1, kind == 0 ? 0 : 10);
        Check.due("fault(0) of " + text, x.fault(0), kind);
        Check.due("fault(1) of " + text, x.fault(1), kind == 0 ? -1 : place);
    }

    private static String someYard(Random draws) {
        int wide = 2 + 2 * draws.nextInt(3);
        int high = 1 + draws.nextInt(6);
        StringBuilder text = new StringBuilder("wide " + wide + " high " + high + " ; ");
        int parts = draws.nextInt(9);
        for (int i = 0; i < parts; i++) {
            String cell = draws.nextInt(wide) + " " + draws.nextInt(high) + " ";
            String[] all = {"school " + (char) ('a' + draws.nextInt(6)) + " hands " + draws.nextInt(41),
                "snow " + cell + "deep " + draws.nextInt(100), "wall " + cell + "tall " + draws.nextInt(100),
                "sun " + cell + "by " + draws.nextInt(10), "no wall above " + draws.nextInt(21),
                "no build behind " + draws.nextInt(41), "no steal", "no ice above " + draws.nextInt(19)};
            text.append(all[draws.nextInt(all.length)]).append(" ; ");
        }
        return text.toString();
    }

    private static String someOrders(Random draws, int wide, int high) {
        StringBuilder text = new StringBuilder();
        int open = 0;
        int steps = draws.nextInt(10) == 0 ? 28 + draws.nextInt(5) : draws.nextInt(9);
        for (int i = 0; i < steps; i++) {
            String step = someStep(draws, wide, high, steps > 20);
            text.append(step).append(" ; ");
            open += step.startsWith("when") || step.startsWith("loop") ? 1 : 0;
            if (open > 0 && draws.nextInt(3) == 0) {
                text.append("end ; ");
                open--;
            }
        }
        return text + "end ; ".repeat(open);
    }

    private static String someStep(Random draws, int wide, int high, boolean isShort) {
        String left = draws.nextInt(wide / 2) + " " + draws.nextInt(high) + " ";
        String right = wide / 2 + draws.nextInt(wide / 2) + " " + draws.nextInt(high) + " ";
        String cell = draws.nextBoolean() ? left : right;
        String compares = draws.nextBoolean() ? "< " : draws.nextBoolean() ? "> " : "= ";
        int n = draws.nextInt(41);
        String[] all = {"night", "stop", "fall " + n, "ice " + cell, "loop " + (1 + draws.nextInt(99)), "when breach",
            "when way " + compares + draws.nextInt(1000), "thaw " + n, "storm " + draws.nextInt(n + 1) + " to " + n,
            "build " + cell + "by " + Math.max(1, n), "steal " + left + "from " + right + "by " + Math.max(1, n),
            "steal " + right + "from " + left + "by " + Math.max(1, n), "when day " + compares + draws.nextInt(1000),
            "when wall " + cell + compares + draws.nextInt(100)};
        return all[draws.nextInt(isShort ? 3 : all.length)];
    }

    /** At times a token is another one, is gone, is there twice; blanks are more or none; the text ends early. */
    private static String changed(Random draws, String text) {
        String[] tokens = text.trim().split(" +");
        int changes = draws.nextInt(3);
        StringBuilder all = new StringBuilder();
        int chosen = draws.nextInt(tokens.length);
        int other = draws.nextInt(tokens.length);
        for (int i = 0; i < tokens.length; i++) {
            String token = tokens[i];
            if (changes > 0 && i == chosen || changes > 1 && i == other) {
                int change = draws.nextInt(6);
                token = change == 0 ? "" : change == 1 ? token + " " + token : change == 2 ? tokens[draws.nextInt(tokens.length)]
                    : ODD[draws.nextInt(ODD.length)];
            }
            boolean tight = draws.nextInt(3) > 0 && (token.equals(";") || all.length() > 0 && all.charAt(all.length() - 1) == ';');
            all.append(tight ? "" : draws.nextInt(8) == 0 ? " \n" : " ").append(token);
        }
        int length = draws.nextInt(12) == 0 ? draws.nextInt(all.length() + 1) : all.length();
        return all.substring(0, length);
    }

    // ---- the model: each token with all the faults that it can have, the least one first

    private String token() {
        return texts.get(at);
    }

    private boolean isNumber() {
        return !token().isEmpty() && Character.isDigit(token().charAt(0)) && token().length() <= 4;
    }

    private boolean isNoToken() {
        String token = token();
        return !token.isEmpty() && !token.matches("[a-z]+|[0-9]{1,4}|[;<>=]");
    }

    private boolean found(int why, int where) {
        if (kind == 0) {
            kind = why;
            place = where;
        }
        return false;
    }

    private boolean here(int why) {
        return found(why, places.get(at));
    }

    private boolean cannotStand() {
        return here(isNoToken() ? 1 : 2);
    }

    private boolean takes(String wanted) {
        if (!token().equals(wanted)) {
            return cannotStand();
        }
        at++;
        return true;
    }

    /** A number from low to high; -1 where there is none. */
    private int number(int low, int high) {
        if (!isNumber()) {
            cannotStand();
            return -1;
        }
        int number = Integer.parseInt(token());
        if (number < low || number > high) {
            here(4);
            return -1;
        }
        at++;
        return number;
    }

    private boolean takesNumber(int low, int high) {
        return number(low, high) >= 0;
    }

    private boolean readYard() {
        if (!takes("wide")) {
            return false;
        }
        if (isNumber() && Integer.parseInt(token()) % 2 == 1) {
            return here(4);
        }
        wide = number(2, 6);
        if (wide < 0 || !takes("high")) {
            return false;
        }
        high = number(1, 6);
        if (high < 0 || !takes(";")) {
            return false;
        }
        Set<String> told = new HashSet<>();
        while (!token().isEmpty()) {
            if (!readPart(told) || !takes(";")) {
                return false;
            }
        }
        return true;
    }

    private boolean readPart(Set<String> told) {
        String head = token();
        switch (head) {
            case "school":
                return readSchool(told);
            case "snow":
                return readHeap(told, head, "deep", 99);
            case "wall":
                return readHeap(told, head, "tall", 99);
            case "sun":
                return readHeap(told, head, "by", 9);
            case "no":
                at++;
                return readArticle(told);
            default:
                return cannotStand();
        }
    }

    private boolean readSchool(Set<String> told) {
        if (schools == 2) {
            return here(6);
        }
        at++;
        String name = token();
        if (!name.matches("[a-z]{1,8}") || WORDS.contains(name)) {
            return cannotStand();
        }
        if (!told.add("name " + name)) {
            return here(3);
        }
        at++;
        schools++;
        return takes("hands") && takesNumber(0, 40);
    }

    private boolean readHeap(Set<String> told, String head, String middle, int most) {
        at++;
        int x = number(0, wide - 1);
        if (x < 0) {
            return false;
        }
        int y = number(0, high - 1);
        if (y < 0) {
            return false;
        }
        if (!told.add(head + " " + x + " " + y)) {
            return found(5, places.get(at - 1));
        }
        return takes(middle) && takesNumber(0, most);
    }

    private boolean readArticle(Set<String> told) {
        String kindOf = token();
        if (!Set.of("wall", "build", "steal", "ice").contains(kindOf)) {
            return cannotStand();
        }
        if (!told.add("no " + kindOf)) {
            return here(5);
        }
        at++;
        switch (kindOf) {
            case "wall":
                return takes("above") && takesNumber(0, 20);
            case "build":
                return takes("behind") && takesNumber(0, 40);
            case "ice":
                return takes("above") && takesNumber(0, 18);
            default:
                return true;
        }
    }

    private boolean readOrders() {
        int depth = 0;
        while (!token().isEmpty()) {
            boolean opens = token().equals("when") || token().equals("loop");
            if (token().equals("end") && depth > 0) {
                depth--;
                at++;
            } else if (!readStep(depth)) {
                return false;
            }
            depth += opens ? 1 : 0;
            if (!takes(";")) {
                return false;
            }
        }
        return depth == 0 || here(2);
    }

    private boolean readStep(int depth) {
        String head = token();
        if (!Set.of("fall", "thaw", "storm", "build", "ice", "steal", "night", "when", "loop", "stop").contains(head)) {
            return cannotStand();
        }
        if (steps == 30) {
            return here(6);
        }
        if (depth == 3 && (head.equals("when") || head.equals("loop"))) {
            return here(7);
        }
        steps++;
        at++;
        switch (head) {
            case "fall":
            case "thaw":
                return takesNumber(0, 40);
            case "storm":
                return readStorm();
            case "build":
                return column(true) >= 0 && takesNumber(0, high - 1) && takes("by") && takesNumber(1, 40);
            case "ice":
                return column(true) >= 0 && takesNumber(0, high - 1);
            case "steal":
                return readSteal();
            case "loop":
                return takesNumber(1, 99);
            case "when":
                return readTest();
            default:
                return true;
        }
    }

    private boolean readStorm() {
        int first = number(0, 40);
        int where = places.get(at - 1);
        if (first < 0 || !takes("to")) {
            return false;
        }
        int second = number(0, 40);
        return second >= 0 && (first <= second || found(4, where));
    }

    /** The x of a cell; if it must have a school, one of a half with a school. */
    private int column(boolean owned) {
        int x = number(0, wide - 1);
        if (x >= 0 && owned && (2 * x < wide ? 0 : 1) >= schools) {
            found(4, places.get(at - 1));
            return -1;
        }
        return x;
    }

    private boolean readSteal() {
        int to = column(true);
        if (to < 0 || !takesNumber(0, high - 1) || !takes("from")) {
            return false;
        }
        int from = column(false);
        if (from < 0 || !takesNumber(0, high - 1)) {
            return false;
        }
        if ((2 * to < wide) == (2 * from < wide)) {
            return found(4, places.get(at - 1));
        }
        return takes("by") && takesNumber(1, 40);
    }

    private boolean readTest() {
        String test = token();
        if (!Set.of("day", "wall", "breach", "way").contains(test)) {
            return cannotStand();
        }
        at++;
        if (test.equals("breach")) {
            return true;
        }
        if (test.equals("wall") && (column(true) < 0 || !takesNumber(0, high - 1))) {
            return false;
        }
        if (!Set.of("<", ">", "=").contains(token())) {
            return cannotStand();
        }
        at++;
        return takesNumber(0, test.equals("wall") ? 99 : 999);
    }
}
