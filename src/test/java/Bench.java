/** What the tests by hand share: objects are set up by it, and looked at. */
abstract class Bench {
    static final int NONE = -1;
    static final int UNKNOWN = -101;
    static final int OUTSIDE = -102;
    static final int FULL = -103;
    static final int STATE = -104;
    static final String INDEX = "throws.ArrayIndexOutOfBoundsException";
    static final String NULL = "throws.NullPointerException";
    static final String ARITHMETIC = "throws.ArithmeticException";

    final Check check = new Check();

    interface SetUp {
        void on(TrainedSegments x);
    }

    interface Asked {
        long of(TrainedSegments x);
    }

    /** Feeds n bytes 0, 1, 2 and so on, no two of them the same for up to 256. */
    static void fill(TrainedSegments x, int n) {
        int[] bytes = new int[n];
        for (int i = 0; i < n; i++) {
            bytes[i] = i;
        }
        feedAll(x, bytes);
    }

    static void write(TrainedSegments x, String text) {
        feedAll(x, text.chars().toArray());
    }

    /** Eight bytes a call, so that an object's 512 calls go far. */
    static void feedAll(TrainedSegments x, int... bytes) {
        for (int i = 0; i < bytes.length; i += 8) {
            int n = Math.min(8, bytes.length - i);
            long w = 0;
            for (int k = 0; k < n; k++) {
                w = w << 8 | bytes[i + k] & 255;
            }
            x.feed(n, w);
        }
    }

    static void samples(TrainedSegments x, String... texts) {
        for (String text : texts) {
            write(x, text);
            x.sample();
        }
    }

    static void give(TrainedSegments x, int dictionary, int id, String text) {
        write(x, text);
        x.give(dictionary, id);
    }

    void dictionary(String what, TrainedSegments x, int d, String due) {
        StringBuilder got = new StringBuilder();
        for (int i = 0; i < x.told(d, 2); i++) {
            got.append((char) (x.content(d, i) & 255));
        }
        check.due(what, got.toString(), due);
    }

    void packed(String what, TrainedSegments x, String text, int d, int... due) {
        write(x, text);
        check.due(what, x.pack(d), due.length);
        for (int i = 0; i < due.length && i < x.about(3); i++) {
            check.due(what + ", byte " + i, x.out(i), due[i]);
        }
    }

    /** Like packed, but of the items alone, behind the four bytes ahead. */
    void items(String what, TrainedSegments x, String text, int d, int... due) {
        write(x, text);
        check.due(what, x.pack(d), 4 + due.length);
        for (int i = 0; i < due.length && 4 + i < x.about(3); i++) {
            check.due(what + ", byte " + (4 + i), x.out(4 + i), due[i]);
        }
    }

    void opened(String what, TrainedSegments x, int due, int... packed) {
        feedAll(x, packed);
        check.due(what, x.open(), due);
    }

    void textIs(String what, TrainedSegments x, String due) {
        StringBuilder got = new StringBuilder();
        for (int i = 0; i < x.about(4); i++) {
            got.append((char) x.text(i));
        }
        check.due(what, got.toString(), due);
    }

    /** Something of all that an object can hold. */
    static void furnish(TrainedSegments x) {
        samples(x, "abcdabcdabcd", "wxyzwxyzwxyzwxyz");
        x.train(2, 9, 4, 80);
        give(x, 0, 7, "abc");
        write(x, "zabcabc");
        x.pack(0);
        feedAll(x, 0, 0, 0, 2, 1, 'h', 'i');
        x.open();
        write(x, "left");
    }

    /** The call answers as due, and an object that was not asked can not be told from the one that was. */
    void changesNothing(String what, SetUp setUp, Asked call, String due) {
        TrainedSegments asked = new TrainedSegments();
        TrainedSegments spared = new TrainedSegments();
        setUp.on(asked);
        setUp.on(spared);
        check.due(what, Check.told(() -> call.of(asked)), due);
        check.due(what + ", what there is then", allOf(asked), allOf(spared));
    }

    void refused(String what, SetUp setUp, Asked call, int due) {
        changesNothing(what, setUp, call, Integer.toString(due));
    }

    /** All that can be asked; at last the tape is packed by none, so that its bytes are seen. */
    static String allOf(TrainedSegments x) {
        StringBuilder all = new StringBuilder();
        for (int what = 0; what <= 6; what++) {
            all.append("about ").append(x.about(what)).append(' ');
        }
        row(all, "out", x.about(3), x::out);
        row(all, "text", x.about(4), x::text);
        for (int d = 0; d < 6; d++) {
            tellDictionary(all, x, d);
        }
        for (int s = 0; s < x.about(1); s++) {
            all.append("best ").append(x.best(s)).append(" none ").append(x.size(s, NONE)).append(' ');
        }
        x.pack(NONE);
        row(all, "tape", x.about(3), x::out);
        return all.toString();
    }

    private static void tellDictionary(StringBuilder all, TrainedSegments x, int d) {
        all.append("dictionary ").append(x.told(d, 0)).append(' ');
        if (x.told(d, 0) == UNKNOWN) {
            return;
        }
        row(all, "pieces", x.told(d, 1), i -> x.told(d, 10 + i));
        row(all, "bytes", x.told(d, 2), i -> x.content(d, i));
        for (int s = 0; s < x.about(1); s++) {
            all.append("size ").append(x.size(s, d)).append(' ');
        }
    }

    private interface At {
        int answer(int i);
    }

    private static void row(StringBuilder all, String name, int n, At at) {
        all.append(name);
        for (int i = 0; i < n; i++) {
            all.append(' ').append(at.answer(i));
        }
        all.append("; ");
    }
}
