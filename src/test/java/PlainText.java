import java.util.ArrayList;
import java.util.HashSet;
import java.util.List;
import java.util.Set;

/** Texts as the document tells them: a part of PlainForts. */
final class PlainText {
    private static final Set<String> WORDS = Set.of("wide", "high", "school", "hands", "snow", "deep", "wall", "tall", "sun",
        "by", "no", "above", "build", "behind", "steal", "ice", "fall", "thaw", "storm", "to", "night", "from", "when", "day",
        "breach", "way", "loop", "end", "stop");

    /** The first fault along a text. */
    static final class Fault extends Exception {
        final int kind;
        final int place;

        Fault(int kind, int place) {
            this.kind = kind;
            this.place = place;
        }
    }

    /** A step: its word (for when its test), its numbers, the steps in it. */
    static final class Step {
        final String word;
        final List<Integer> numbers = new ArrayList<>();
        char compares = '=';
        final List<Step> inside = new ArrayList<>();

        Step(String word) {
            this.word = word;
        }
    }

    private final String text;
    /** Where the next token begins. */
    private int at;
    private int steps;

    PlainText(String text) {
        this.text = text;
        skip();
    }

    private void skip() {
        while (at < text.length() && (text.charAt(at) == 10 || text.charAt(at) == 32)) {
            at++;
        }
    }

    /** The next token, empty at the end. */
    private String token() {
        int to = at;
        if (at < text.length() && Character.toString(text.charAt(at)).matches("[a-z]")) {
            while (to < text.length() && text.charAt(to) >= 'a' && text.charAt(to) <= 'z') {
                to++;
            }
        } else if (at < text.length() && Character.toString(text.charAt(at)).matches("[0-9]")) {
            while (to < text.length() && text.charAt(to) >= '0' && text.charAt(to) <= '9') {
                to++;
            }
        } else if (at < text.length()) {
            to++;
        }
        return text.substring(at, to);
    }

    private Fault misfit() {
        String token = token();
        return new Fault(token.isEmpty() || token.matches("[a-z]+|[0-9]{1,4}|[;<>=]") ? 2 : 1, at);
    }

    /** Goes on behind the token: where it began. */
    private int pass() {
        int began = at;
        at += token().length();
        skip();
        return began;
    }

    private void take(String wanted) throws Fault {
        if (!token().equals(wanted)) {
            throw misfit();
        }
        pass();
    }

    private String takeOf(String... wanted) throws Fault {
        String token = token();
        if (!List.of(wanted).contains(token)) {
            throw misfit();
        }
        pass();
        return token;
    }

    private int number(int low, int high) throws Fault {
        String token = token();
        if (!token.matches("[0-9]{1,4}")) {
            throw misfit();
        }
        int number = Integer.parseInt(token);
        if (number < low || number > high) {
            throw new Fault(4, at);
        }
        pass();
        return number;
    }

    // ---- a yard

    PlainYard yard() throws Fault {
        PlainYard yard = new PlainYard();
        take("wide");
        int began = at;
        yard.wide = number(2, 6);
        if (yard.wide % 2 == 1) {
            throw new Fault(4, began);
        }
        take("high");
        yard.high = number(1, 6);
        take(";");
        Set<String> told = new HashSet<>();
        while (!token().isEmpty()) {
            part(yard, told);
            take(";");
        }
        for (int x = 0; x < 6; x++) {
            yard.lastWall[x] = yard.wall[x].clone();
        }
        return yard;
    }

    private void part(PlainYard yard, Set<String> told) throws Fault {
        int began = at;
        String word = takeOf("school", "snow", "wall", "sun", "no");
        switch (word) {
            case "school" -> school(yard, told, began);
            case "snow" -> heap(yard, told, word, "deep", 99, yard.snow);
            case "wall" -> heap(yard, told, word, "tall", 99, yard.wall);
            case "sun" -> heap(yard, told, word, "by", 9, yard.sun);
            default -> article(yard);
        }
    }

    private void school(PlainYard yard, Set<String> told, int began) throws Fault {
        if (yard.schools.size() == 2) {
            throw new Fault(6, began);
        }
        String name = token();
        if (!name.matches("[a-z]{1,8}") || WORDS.contains(name)) {
            throw misfit();
        }
        if (!told.add("school " + name)) {
            throw new Fault(3, at);
        }
        pass();
        take("hands");
        yard.schools.add(new int[] {number(0, 40), 0, 0});
    }

    private void heap(PlainYard yard, Set<String> told, String word, String before, int most, int[][] row) throws Fault {
        int x = number(0, yard.wide - 1);
        int began = at;
        int y = number(0, yard.high - 1);
        if (!told.add(word + " " + x + " " + y)) {
            throw new Fault(5, began);
        }
        take(before);
        row[x][y] = number(0, most);
    }

    private void article(PlainYard yard) throws Fault {
        int began = at;
        String word = takeOf("wall", "build", "steal", "ice");
        int kind = List.of("wall", "build", "steal", "ice").indexOf(word);
        if (yard.articles[kind] != null) {
            throw new Fault(5, began);
        }
        yard.articles[kind] = 0;
        if (kind != 2) {
            take(kind == 1 ? "behind" : "above");
            yard.articles[kind] = number(0, kind == 0 ? 20 : kind == 1 ? 40 : 18);
        }
    }

    // ---- orders

    List<Step> orders(PlainYard yard) throws Fault {
        List<Step> all = new ArrayList<>();
        stepsUpTo("", 0, all, yard);
        return all;
    }

    int steps() {
        return steps;
    }

    private void stepsUpTo(String end, int depth, List<Step> into, PlainYard yard) throws Fault {
        while (!token().equals(end)) {
            into.add(step(depth, yard));
            take(";");
        }
        pass();
    }

    private Step step(int depth, PlainYard yard) throws Fault {
        int began = at;
        String word = takeOf("fall", "thaw", "storm", "build", "ice", "steal", "night", "when", "loop", "stop");
        steps++;
        if (steps > 30) {
            throw new Fault(6, began);
        }
        if (depth == 3 && (word.equals("when") || word.equals("loop"))) {
            throw new Fault(7, began);
        }
        Step step = word.equals("when") ? when(yard) : plain(word, yard);
        if (word.equals("when") || word.equals("loop")) {
            take(";");
            stepsUpTo("end", depth + 1, step.inside, yard);
        }
        return step;
    }

    private Step plain(String word, PlainYard yard) throws Fault {
        Step step = new Step(word);
        switch (word) {
            case "fall", "thaw" -> step.numbers.add(number(0, 40));
            case "storm" -> storm(step);
            case "loop" -> step.numbers.add(number(1, 99));
            case "ice" -> cell(step, yard, true);
            case "build" -> {
                cell(step, yard, true);
                take("by");
                step.numbers.add(number(1, 40));
            }
            case "steal" -> steal(step, yard);
            default -> { }
        }
        return step;
    }

    private void storm(Step step) throws Fault {
        int began = at;
        step.numbers.add(number(0, 40));
        take("to");
        step.numbers.add(number(0, 40));
        if (step.numbers.get(0) > step.numbers.get(1)) {
            throw new Fault(4, began);
        }
    }

    private void cell(Step step, PlainYard yard, boolean owned) throws Fault {
        int began = at;
        int x = number(0, yard.wide - 1);
        if (owned && !yard.hasSchool(yard.half(x))) {
            throw new Fault(4, began);
        }
        step.numbers.add(x);
        step.numbers.add(number(0, yard.high - 1));
    }

    private void steal(Step step, PlainYard yard) throws Fault {
        cell(step, yard, true);
        take("from");
        int x = number(0, yard.wide - 1);
        int began = at;
        int y = number(0, yard.high - 1);
        if (yard.half(x) == yard.half(step.numbers.get(0))) {
            throw new Fault(4, began);
        }
        step.numbers.add(x);
        step.numbers.add(y);
        take("by");
        step.numbers.add(number(1, 40));
    }

    private Step when(PlainYard yard) throws Fault {
        String word = takeOf("day", "wall", "breach", "way");
        Step step = new Step("when " + word);
        if (word.equals("breach")) {
            return step;
        }
        if (word.equals("wall")) {
            cell(step, yard, true);
        }
        step.compares = takeOf("<", ">", "=").charAt(0);
        step.numbers.add(number(0, word.equals("wall") ? 99 : 999));
        return step;
    }
}
