import java.nio.charset.StandardCharsets;

/** What the project's tests share: counting wrong answers, and texts for the tape. */
final class Check {
    private static int wrong;
    private static int asked;

    private Check() {
    }

    static void due(String what, long got, long want) {
        asked++;
        if (got != want) {
            wrong++;
            if (wrong <= 40) {
                System.out.println(what + " answered " + got + ", due is " + want);
            }
        }
    }

    static void due(String what, boolean got, boolean want) {
        due(what, got ? 1 : 0, want ? 1 : 0);
    }

    /** The answer, and behind it the STATUS that is due. */
    static void due(String what, SnowForts forts, long got, long want, int status) {
        due(what, got, want);
        due(what + ": status()", forts.status(), status);
    }

    static void due(String what, SnowForts forts, boolean got, boolean want, int status) {
        due(what, forts, got ? 1 : 0, want ? 1 : 0, status);
    }

    /** Puts a text on an empty tape, blanks behind it: its length. */
    static int put(SnowForts forts, String text) {
        byte[] bytes = text.getBytes(StandardCharsets.ISO_8859_1);
        for (int at = 0; at < bytes.length; at += 20) {
            forts.feed(four(bytes, at), four(bytes, at + 4), four(bytes, at + 8), four(bytes, at + 12),
                four(bytes, at + 16));
        }
        return bytes.length;
    }

    private static int four(byte[] bytes, int from) {
        int all = 0;
        for (int i = from; i < from + 4; i++) {
            all = all << 8 | (i < bytes.length ? bytes[i] & 255 : 32);
        }
        return all;
    }

    static int yard(SnowForts forts, String text) {
        return forts.yard(put(forts, text));
    }

    static int orders(SnowForts forts, String text) {
        return forts.orders(put(forts, text));
    }

    /** A new object with a yard that must be taken. */
    static SnowForts forts(String yard) {
        SnowForts forts = new SnowForts();
        yard(forts, yard);
        due("yard taken: " + yard, forts.status(), 0);
        return forts;
    }

    /** A tray of the sort with 64 bits. */
    static void row(SnowForts forts, int tray, long... numbers) {
        forts.tray(tray, 3, numbers.length);
        for (int i = 0; i < numbers.length; i++) {
            forts.write(tray, i, numbers[i]);
        }
    }

    /** A text that is not taken: which fault, and where; the tape is empty behind it. */
    static void faulty(String why, SnowForts forts, boolean isYard, String text, int kind, int place) {
        String what = why + " (" + text + ")";
        due(what, forts, isYard ? yard(forts, text) : orders(forts, text), -1, 10);
        due(what + ": fault(0)", forts.fault(0), kind);
        due(what + ": fault(1)", forts.fault(1), place);
        due(what + ": the tape is empty", forts, forts.yard(1), -1, 5);
    }

    /** A text that is taken, and what the call answers then. */
    static void taken(String why, SnowForts forts, boolean isYard, String text, int answer) {
        String what = why + " (" + text + ")";
        due(what, forts, isYard ? yard(forts, text) : orders(forts, text), answer, 0);
        due(what + ": fault(0)", forts.fault(0), 0);
        due(what + ": fault(1)", forts.fault(1), -1);
        due(what + ": the tape is empty", forts, forts.yard(1), -1, 5);
    }

    static void end(String name) {
        System.out.println(name + ": " + asked + " answers, " + wrong + " not as due");
        if (wrong != 0) {
            System.exit(1);
        }
    }
}
