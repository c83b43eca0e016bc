import java.nio.charset.StandardCharsets;

/** What the tests share: texts put on the tape, answers held against those that are due. */
final class Check {
    private int wrong = 0;
    private int asked = 0;

    void due(String call, long want, long got) {
        asked++;
        if (got != want) {
            wrong++;
            System.out.println(call + " answered " + got + ", due is " + want);
        }
    }

    void due(String call, boolean want, boolean got) {
        due(call, want ? 1 : 0, got ? 1 : 0);
    }

    /** Puts a text on the tape: twenty bytes a feed, the blanks too many taken back. */
    static void put(StateJuggler x, String text) {
        byte[] bytes = text.getBytes(StandardCharsets.ISO_8859_1);
        int length = x.count(11) + bytes.length;
        for (int i = 0; i < bytes.length; i += 20) {
            x.feed(word(bytes, i), word(bytes, i + 4), word(bytes, i + 8), word(bytes, i + 12), word(bytes, i + 16));
        }
        x.back(x.count(11) - length);
    }

    private static int word(byte[] bytes, int from) {
        int word = 0;
        for (int i = from; i < from + 4; i++) {
            word = word << 8 | (i < bytes.length ? bytes[i] & 255 : ' ');
        }
        return word;
    }

    /** A new object that has read the text, which is without FAULT. */
    StateJuggler told(String text) {
        StateJuggler x = new StateJuggler();
        put(x, text);
        due("read of " + text, 0, x.read());
        return x;
    }

    void fault(String text, int fault, int place) {
        StateJuggler x = new StateJuggler();
        put(x, text);
        due("read of " + text, fault, x.read());
        due("place of " + text, place, x.place());
        due("tape behind " + text, 0, x.count(11));
    }

    void end() {
        System.out.println(wrong == 0 ? asked + " answers are as due" : wrong + " answers are not as due");
        if (wrong != 0 || asked == 0) {
            System.exit(1);
        }
    }
}
