/** What tests share: answers against those that are due, texts for the tape, rows of items. */
abstract class Trial {
    static final int NONE = -1000000, BAD = -1000001, STATE = -1000002, FULL = -1000003;
    static final int NULL = -1000011, PLACE = -1000012, KIND = -1000013, SIZE = -1000014, STORE = -1000015;
    static final int MIN = Integer.MIN_VALUE, MAX = Integer.MAX_VALUE;

    private static int asked = 0;
    private static int wrong = 0;
    private static int sentences = 0;
    private static String words = "";

    /** What follows tests these words of the document. */
    static void says(String sentence) {
        sentences++;
        words = "<" + sentence + "> ";
    }

    static void due(String what, long got, long want) {
        due(what, Long.toString(got), Long.toString(want));
    }

    static void due(String what, String got, String want) {
        asked++;
        if (!got.equals(want)) {
            wrong++;
            System.out.println(words + what + " answered " + got + ", due is " + want);
        }
    }

    /** Tells how it went, and ends with 1 if an answer was not as due. */
    static void end() {
        System.out.println((sentences > 0 ? sentences + " sentences, " : "") + asked + " answers, " + wrong + " not as due");
        if (wrong != 0) {
            System.exit(1);
        }
    }

    static void write(AlikeHands x, String text) {
        for (int i = 0; i < text.length(); i += 8) {
            int n = Math.min(8, text.length() - i);
            long w = 0;
            for (int k = 0; k < n; k++) {
                w = w << 8 | text.charAt(i + k) & 255;
            }
            x.feed(w, n);
        }
    }

    static int read(AlikeHands x, String text) {
        write(x, text);
        return x.clock();
    }

    static AlikeHands clockOf(String text) {
        AlikeHands x = new AlikeHands();
        if (read(x, text) < 1) {
            wrong++;
            System.out.println(words + "not read: " + text);
        }
        return x;
    }

    static void fill(AlikeHands x, int row, int lane, int... items) {
        x.row(row, lane, items.length);
        for (int i = 0; i < items.length; i++) {
            x.set(row, i, items[i]);
        }
    }

    /**
     * An item from 0 to 719; of another, or where there is none, what lies() answers of 720 parts. x has a clock of one
     * hand: that never lies, and is BAD of a dial with no more parts than the item.
     */
    static int item(AlikeHands x, int row, int i) {
        int answer = x.lies(row, i, 720, 0);
        if (answer != 1) {
            return answer;
        }
        int least = 1;
        int most = 720;
        while (least < most) {
            int parts = (least + most) / 2;
            if (x.lies(row, i, parts, 0) == BAD) {
                least = parts + 1;
            } else {
                most = parts;
            }
        }
        return least - 1;
    }

    /** The items of a row, with what is answered of the place behind them; x has a clock of one hand. */
    static void dueItems(AlikeHands x, String what, int row, int... items) {
        for (int i = 0; i < items.length; i++) {
            due(what + " item " + i, item(x, row, i), items[i]);
        }
        due(what + " end", item(x, row, items.length), PLACE);
    }

    static void dueFault(String text, int place, int number) {
        AlikeHands x = new AlikeHands();
        due("clock of <" + text + ">", read(x, text), -1000100 - place);
        due("fault of <" + text + ">", x.fault(), number);
    }

    static void dueRead(String text, int hands) {
        AlikeHands x = new AlikeHands();
        due("clock of <" + text + ">", read(x, text), hands);
        due("fault of <" + text + ">", x.fault(), 0);
    }

    static void dueAsk(AlikeHands x, int hand, int what, int answer, int... trace) {
        due("ask(" + hand + ", " + what + ")", x.ask(hand, what), answer);
        for (int i = 0; i < trace.length; i++) {
            due("trace(" + i + ") of ask(" + hand + ", " + what + ")", x.trace(i), trace[i]);
        }
        due("trace's end of ask(" + hand + ", " + what + ")", x.trace(trace.length), NONE);
    }
}
