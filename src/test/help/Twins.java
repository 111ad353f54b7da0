import java.util.function.Supplier;

/** Objects made alike: the one is asked a call that is to change nothing, and then both have to tell the same. */
abstract class Twins extends Trial {
    /** One call, with its answer. */
    interface Call {
        int of(AlikeHands x);
    }

    static final int[] NO_ROWS = {-1, 8, MIN, MAX};
    /** No hands of full(), which has four, nor of any clock. */
    static final int[] NO_HANDS = {-1, 4, MIN, MAX};
    static final int[][] NO_PAIRS = {{0, 0}, {3, 3}, {0, 4}, {4, 0}, {-1, 0}, {0, -1}, {MIN, MAX}, {MAX, MIN}, {-1, -1}};
    static final int[][] NO_MOMENTS = {
        {-1, 5}, {5, 5}, {6, 5}, {1, 1}, {0, 0}, {0, -1}, {-2, -1}, {0, 10000}, {9999, 10000}, {MIN, 5}, {MAX, 5},
        {0, MIN}, {0, MAX}, {MIN, MIN}, {MAX, MAX}
    };
    private static final String WAITING = "dial 9;hand tide 3;";

    /** No clock; rows, a text that waits on the tape, a fault. */
    static AlikeHands bare() {
        AlikeHands x = new AlikeHands();
        read(x, "dial 61;");
        addRows(x);
        write(x, WAITING);
        x.set(3, 0, 0);
        return x;
    }

    /** A clock of four hands, acts, an image 1, a trace, rows, a fault and a finding. */
    static AlikeHands kept() {
        AlikeHands x = new AlikeHands();
        read(x, "dial 61;");
        read(x, "dial 12;hand hour 1;hand back 2;");
        x.slip(0, 5);
        x.image(1);
        read(x, "dial 30;hand hour 1;hand moon 2;hand sweep 3;hand back 4;");
        x.slip(1, 7);
        x.slip(3, -1);
        x.slip(1, 30);
        x.ask(1, 0);
        addRows(x);
        x.as(0, 2);
        return x;
    }

    /** As kept(), and a text that waits on the tape. */
    static AlikeHands full() {
        AlikeHands x = kept();
        write(x, WAITING);
        return x;
    }

    /** As full(), and no room on the tape. */
    static AlikeHands brimming() {
        AlikeHands x = full();
        write(x, " ".repeat(200 - WAITING.length()));
        return x;
    }

    private static void addRows(AlikeHands x) {
        fill(x, 0, 0, 1, 2, 3, 4);
        fill(x, 1, 1, 200, 5, -1);
        fill(x, 2, 2, 0, 719, 6, 7, 8, 9, 10, 11);
        x.row(7, 0, 0);
    }

    /** All that can be seen of an object but status(); not much is left of it behind this. */
    static String everything(AlikeHands x) {
        StringBuilder told = new StringBuilder();
        told.append("fault ").append(x.fault()).append(" trace");
        for (int i = 0; i < 8; i++) {
            told.append(' ').append(x.trace(i));
        }
        told.append(" counts");
        for (int what = 0; what <= 5; what++) {
            told.append(' ').append(x.count(what));
        }
        tellHands(x, told);
        for (int left = x.count(4); left > 0; left--) {
            told.append(" undo ").append(x.undo());
            tellSlips(x, told);
        }
        told.append(" clock ").append(x.clock()).append(" fault ").append(x.fault());
        tellHands(x, told);
        for (int k = 0; k <= 1; k++) {
            told.append(" restore ").append(x.restore(k));
            tellHands(x, told);
        }
        read(x, "dial 2;hand hour 1;");
        for (int row = 0; row < 8; row++) {
            tellRow(x, row, told);
        }
        return told.toString();
    }

    private static void tellHands(AlikeHands x, StringBuilder told) {
        told.append(" marks ").append(x.count(2)).append(" kinds");
        for (int h = 0; h < 4; h++) {
            told.append(' ').append(x.kind(h)).append(':').append(x.hand(h, 0));
        }
        tellSlips(x, told);
    }

    private static void tellSlips(AlikeHands x, StringBuilder told) {
        told.append(" slips");
        for (int h = 0; h < 4; h++) {
            told.append(' ').append(x.hand(h, 2));
        }
    }

    /** Items, length, and the lane, by what is left of a number in it. */
    private static void tellRow(AlikeHands x, int row, StringBuilder told) {
        told.append(" row");
        int length = 0;
        for (int v = item(x, row, 0); v != PLACE && v != NULL; v = item(x, row, length)) {
            told.append(' ').append(v);
            length++;
        }
        told.append(" lane ").append(x.set(row, 0, 70000)).append(" length ").append(x.drop(row));
    }

    /** The call is answered so, and leaves all as it was but status(), which tells a finding. */
    static void refused(String what, Supplier<AlikeHands> made, Call call, int answer) {
        AlikeHands x = made.get();
        int before = x.status();
        due(what, call.of(x), answer);
        due(what + ", status", x.status(), answer <= NULL ? -1000010 - answer : before);
        due(what + ", all else", everything(x), everything(made.get()));
    }

    static void refused(String what, Call call, int answer) {
        refused(what, Twins::full, call, answer);
    }

    /** The call, whatever its answer, leaves all as it was; status() is as told. */
    static void changesNothing(String what, Call call, int status) {
        AlikeHands x = full();
        call.of(x);
        due(what + ", status", x.status(), status);
        due(what + ", all else", everything(x), everything(full()));
    }

    // ---- parts, told as one text

    static String points(AlikeHands x, int hand, int p, int q) {
        return x.points(hand, p, q, 0) + "/" + x.points(hand, p, q, 1);
    }

    /** The x and the y of a doubt of the hands 0 and 1. */
    static String doubt(AlikeHands x, int i) {
        return x.doubt(0, 1, i, 0) + "/" + x.doubt(0, 1, i, 1) + " " + x.doubt(0, 1, i, 2) + "/" + x.doubt(0, 1, i, 3);
    }

    /** Of the hands 0 and 1. */
    static String next(AlikeHands x, int how, int p, int q) {
        return x.next(0, 1, how, p, q, 0) + "/" + x.next(0, 1, how, p, q, 1);
    }

    static String glass(AlikeHands x, int p, int q) {
        return x.glass(p, q, 0) + "/" + x.glass(p, q, 1);
    }

    /** By how much the last hand lies when the hands are read at these, of so many parts. */
    static String lie(AlikeHands x, int parts, int... arcs) {
        fill(x, 6, 2, arcs);
        return x.lies(6, 0, parts, 2) + "/" + x.lies(6, 0, parts, 3);
    }

    static int lies(AlikeHands x, int what, int parts, int... arcs) {
        fill(x, 6, 2, arcs);
        return x.lies(6, 0, parts, what);
    }

    static String clockText(int marks, String... hands) {
        StringBuilder text = new StringBuilder("dial " + marks + ";");
        for (String hand : hands) {
            text.append("hand ").append(hand).append(";");
        }
        return text.toString();
    }

    static AlikeHands hands(String... hands) {
        return clockOf(clockText(12, hands));
    }
}
