/** The sentences of the promises that name an edge, each refusal among them, and that refusals change nothing. */
public final class PromiseEdgeTest extends Bench {
    private static final int[] NO_NUMBERS = {-1, 6, Integer.MIN_VALUE, Integer.MAX_VALUE};
    private static final int[] NO_IDS = {0, 256, -1, Integer.MIN_VALUE, Integer.MAX_VALUE};

    public static void main(String[] args) {
        PromiseEdgeTest t = new PromiseEdgeTest();
        t.aNewObject();
        t.feedLowestBytes();
        t.feedOutside();
        t.feedFull();
        t.sampleEmptiesTheTape();
        t.sampleOutside();
        t.sampleFull();
        t.forgetAll();
        t.forgottenCountNoMore();
        t.forgetNone();
        t.trainInPlaceOfWhatWas();
        t.trainUnknown();
        t.trainOutside();
        t.trainState();
        t.giveEmptiesTheTape();
        t.giveNothing();
        t.giveUnknown();
        t.giveOutside();
        t.trimUnknown();
        t.trimState();
        t.trimLeavesTheRest();
        t.dropUnknown();
        t.dropIsNotThereAnyMore();
        t.toldPieces();
        t.toldUnknown();
        t.toldOutside();
        t.contentWithSign();
        t.contentNotThere();
        t.contentNoSuchNumberOrByte();
        t.packEmptiesTheTape();
        t.packUnknown();
        t.outBytes();
        t.outOutOfBounds();
        t.openEmptiesTheTape();
        t.openWrongLeavesText();
        t.textBytes();
        t.textOutOfBounds();
        t.sizeUnknown();
        t.sizeLeavesTheRest();
        t.bestOfSeveral();
        t.bestByNone();
        t.bestUnknown();
        t.shareCut();
        t.shareUnknown();
        t.shareWithoutSamples();
        t.aboutOutside();
        t.aboutItemsAndMatches();
        t.ofSeveralRefusalsTheFirst();
        t.check.end("PromiseEdgeTest");
    }

    private static void nothing(TrainedSegments x) {
    }

    private static void tapeOf(TrainedSegments x, int n) {
        furnish(x);
        x.pack(NONE);
        fill(x, n);
    }

    private static void withoutSamples(TrainedSegments x) {
        furnish(x);
        x.forget();
    }

    private static void withEightSamples(TrainedSegments x) {
        x.give(0, 1);
        samples(x, "a", "bc", "def", "ghij", "klmno", "pqrstu", "abcabca", "ababababab");
        write(x, "left");
    }

    private void aNewObject() {
        check.says("An empty TAPE, no SAMPLES, no DICTIONARIES; OUT and TEXT are empty.");
        TrainedSegments x = new TrainedSegments();
        for (int what = 0; what <= 6; what++) {
            check.due("about(" + what + ")", x.about(what), 0);
        }
        changesNothing("no byte of OUT", PromiseEdgeTest::nothing, y -> y.out(0), INDEX);
        changesNothing("no byte of TEXT", PromiseEdgeTest::nothing, y -> y.text(0), INDEX);
        refused("no sample", PromiseEdgeTest::nothing, y -> y.size(0, NONE), UNKNOWN);
        check.due("an empty tape, packed", x.pack(NONE), 4);
        TrainedSegments other = new TrainedSegments();
        furnish(other);
        check.due("another object does not matter", new TrainedSegments().about(1), 0);
    }

    private void feedLowestBytes() {
        check.says("The n lowest bytes of w, the highest of them first, come behind THE TAPE: how many it has.");
        long w = 0x8182838485868788L;
        for (int n = 1; n <= 8; n++) {
            TrainedSegments x = new TrainedSegments();
            check.due("one ahead", x.feed(1, -1L), 1);
            check.due("n " + n, x.feed(n, w), 1 + n);
            x.give(0, 1);
            check.due("n " + n + ", the one ahead", x.content(0, 0), -1);
            for (int i = 0; i < n; i++) {
                check.due("n " + n + ", byte " + i, x.content(0, 1 + i), (byte) (0x88 - (n - 1 - i)));
            }
        }
        TrainedSegments x = new TrainedSegments();
        x.feed(8, Long.MIN_VALUE);
        x.feed(8, Long.MAX_VALUE);
        x.give(0, 1);
        check.due("the least w", x.content(0, 0), -128);
        check.due("the least w, its last byte", x.content(0, 7), 0);
        check.due("the greatest w", x.content(0, 8), 127);
        check.due("the greatest w, its last byte", x.content(0, 15), -1);
    }

    private void feedOutside() {
        check.says("OUTSIDE: n is not 1 .. 8.");
        for (int n : new int[] {0, 9, -1, -8, 16, Integer.MIN_VALUE, Integer.MAX_VALUE}) {
            refused("n " + n, Bench::furnish, x -> x.feed(n, 0x6161), OUTSIDE);
        }
    }

    private void feedFull() {
        check.says("feed: FULL.");
        for (int n = 1; n <= 8; n++) {
            int bytes = n;
            refused("201 by " + n, x -> tapeOf(x, 201 - bytes), x -> x.feed(bytes, -1L), FULL);
            TrainedSegments x = new TrainedSegments();
            fill(x, 200 - n);
            check.due("200 by " + n, x.feed(n, -1L), 200);
        }
        TrainedSegments x = new TrainedSegments();
        fill(x, 200);
        x.open();
        check.due("room again", x.feed(8, 0), 8);
    }

    private void sampleEmptiesTheTape() {
        check.says("THE TAPE, which is empty then, is a SAMPLE: its number.");
        TrainedSegments x = new TrainedSegments();
        write(x, "abc");
        check.due("number", x.sample(), 0);
        check.due("tape", x.about(0), 0);
        check.due("feed begins anew", x.feed(2, 0x6465), 2);
        check.due("number", x.sample(), 1);
        give(x, 0, 1, "abc");
        check.due("sample 0 is abc", x.size(0, 0), 6);
        check.due("sample 1 has two bytes", x.size(1, 0), 7);
    }

    private void sampleOutside() {
        check.says("OUTSIDE: it has not 1 .. 40 bytes.");
        refused("0 bytes", x -> tapeOf(x, 0), TrainedSegments::sample, OUTSIDE);
        refused("0 bytes of a new object", PromiseEdgeTest::nothing, TrainedSegments::sample, OUTSIDE);
        refused("41 bytes", x -> tapeOf(x, 41), TrainedSegments::sample, OUTSIDE);
        refused("200 bytes", x -> tapeOf(x, 200), TrainedSegments::sample, OUTSIDE);
        for (int n : new int[] {1, 40}) {
            TrainedSegments x = new TrainedSegments();
            fill(x, n);
            check.due(n + " bytes", x.sample(), 0);
        }
    }

    private void sampleFull() {
        check.says("sample: FULL.");
        refused("a ninth", PromiseEdgeTest::withEightSamples, TrainedSegments::sample, FULL);
    }

    private void forgetAll() {
        check.says("There are no SAMPLES: how many there were.");
        TrainedSegments x = new TrainedSegments();
        withEightSamples(x);
        check.due("eight", x.forget(), 8);
        check.due("none now", x.about(1), 0);
        check.due("no sample 0", x.best(0), UNKNOWN);
        check.due("no sample 7", x.best(7), UNKNOWN);
        check.due("the tape stays", x.about(0), 4);
        check.due("dictionaries stay", x.about(2), 1);
        check.due("again", x.forget(), 0);
        check.due("the first is 0", x.sample(), 0);
        check.due("left, not what was", x.size(0, NONE), 4 + 1 + 4);
        check.due("no sample 1", x.best(1), UNKNOWN);
    }

    private void forgottenCountNoMore() {
        check.says("There are no SAMPLES");
        TrainedSegments x = new TrainedSegments();
        samples(x, "abcdabcd", "abcdabcd", "abcdabcd");
        x.forget();
        samples(x, "abcd");
        check.due("by training", x.train(0, 1, 4, 80), 0);
        samples(x, "abcd");
        check.due("by training with two", x.train(0, 1, 4, 80), 0);
        give(x, 0, 1, "abcd");
        check.due("3 of 9, twice", x.share(0), 333);
        x.forget();
        samples(x, "q");
        check.due("0 of 6", x.share(0), 0);
        check.due("by trimming", x.trim(0), 1);
    }

    private void forgetNone() {
        check.says("There are no SAMPLES: how many there were.");
        refused("none", PromiseEdgeTest::withoutSamples, TrainedSegments::forget, 0);
    }

    private void trainInPlaceOfWhatWas() {
        check.says("A dictionary with an ID is there by TRAINING, in place of what was: how many PIECES.");
        TrainedSegments x = new TrainedSegments();
        furnish(x);
        check.due("in place of what was given", x.train(0, 8, 4, 80), 2);
        check.due("ID", x.told(0, 0), 8);
        dictionary("bytes", x, 0, "abcdwxyz");
        check.due("in place of what was trained", x.train(2, 200, 8, 80), 1);
        dictionary("8 bytes", x, 2, "wxyzwxyz");
        check.due("in place, without pieces", x.train(2, 201, 8, 7), 0);
        dictionary("no bytes", x, 2, "");
        check.due("two are there", x.about(2), 2);
        check.due("the tape stays", x.about(0), 4);
        check.due("OUT stays", x.about(3), 10);
        check.due("the samples stay", x.about(1), 2);
    }

    private void trainUnknown() {
        check.says("train: UNKNOWN (dictionary)");
        for (int d : NO_NUMBERS) {
            refused("number " + d, Bench::furnish, x -> x.train(d, 1, 4, 80), UNKNOWN);
        }
    }

    private void trainOutside() {
        check.says("OUTSIDE (ID; n; BOUND is not 0 .. 80).");
        for (int id : NO_IDS) {
            refused("ID " + id, Bench::furnish, x -> x.train(0, id, 4, 80), OUTSIDE);
        }
        for (int n : new int[] {1, 9, 0, -1, Integer.MIN_VALUE, Integer.MAX_VALUE}) {
            refused("n " + n, Bench::furnish, x -> x.train(0, 1, n, 80), OUTSIDE);
        }
        for (int bound : new int[] {-1, 81, Integer.MIN_VALUE, Integer.MAX_VALUE}) {
            refused("BOUND " + bound, Bench::furnish, x -> x.train(0, 1, 4, bound), OUTSIDE);
        }
        TrainedSegments x = new TrainedSegments();
        furnish(x);
        check.due("BOUND 0", x.train(0, 1, 4, 0), 0);
        check.due("BOUND 80", x.train(0, 1, 4, 80), 2);
        check.due("n 2", x.train(0, 1, 2, 80), 0);
        check.due("n 8", x.train(0, 1, 8, 80), 1);
    }

    private void trainState() {
        check.says("train: STATE: there are no SAMPLES.");
        refused("none yet", PromiseEdgeTest::nothing, x -> x.train(0, 1, 4, 80), STATE);
        refused("none any more", PromiseEdgeTest::withoutSamples, x -> x.train(0, 1, 4, 80), STATE);
        refused("nor with BOUND 0", PromiseEdgeTest::withoutSamples, x -> x.train(2, 1, 4, 0), STATE);
        TrainedSegments x = new TrainedSegments();
        samples(x, "a");
        check.due("one is enough", x.train(0, 1, 4, 80), 0);
    }

    private void giveEmptiesTheTape() {
        check.says("A dictionary with an ID has THE TAPE, which is empty then, as its one PIECE .. : how many bytes.");
        for (int n : new int[] {1, 79, 80}) {
            TrainedSegments x = new TrainedSegments();
            furnish(x);
            x.pack(NONE);
            fill(x, n);
            check.due(n + " bytes", x.give(2, 255), n);
            check.due("tape", x.about(0), 0);
            check.due("ID", x.told(2, 0), 255);
            check.due("one piece in place of two", x.told(2, 1), 1);
            check.due("its bytes", x.told(2, 10), n);
            check.due("no other", x.told(2, 11), OUTSIDE);
            check.due("the last byte", x.content(2, n - 1), n - 1);
            check.due("feed begins anew", x.feed(1, 0), 1);
        }
    }

    private void giveNothing() {
        check.says("(none, if that is empty)");
        TrainedSegments x = new TrainedSegments();
        check.due("in a new object", x.give(3, 9), 0);
        check.due("it is there", x.told(3, 0), 9);
        check.due("no piece", x.told(3, 1), 0);
        check.due("no piece 0", x.told(3, 10), OUTSIDE);
        give(x, 3, 9, "abc");
        check.due("in place of a piece", x.give(3, 10), 0);
        check.due("no piece", x.told(3, 1), 0);
        check.due("no bytes", x.told(3, 2), 0);
    }

    private void giveUnknown() {
        check.says("give: UNKNOWN");
        for (int d : NO_NUMBERS) {
            refused("number " + d, Bench::furnish, x -> x.give(d, 1), UNKNOWN);
        }
    }

    private void giveOutside() {
        check.says("give: OUTSIDE (also more than 80 bytes).");
        for (int id : NO_IDS) {
            refused("ID " + id, Bench::furnish, x -> x.give(0, id), OUTSIDE);
            refused("ID " + id + ", not there", Bench::furnish, x -> x.give(1, id), OUTSIDE);
        }
        refused("81 bytes", x -> tapeOf(x, 81), x -> x.give(0, 1), OUTSIDE);
        refused("200 bytes", x -> tapeOf(x, 200), x -> x.give(1, 1), OUTSIDE);
    }

    private void trimUnknown() {
        check.says("trim: UNKNOWN (also not there).");
        for (int d : NO_NUMBERS) {
            refused("number " + d, Bench::furnish, x -> x.trim(d), UNKNOWN);
        }
        refused("not there", Bench::furnish, x -> x.trim(1), UNKNOWN);
        refused("not there any more", x -> {
            furnish(x);
            x.drop(2);
        }, x -> x.trim(2), UNKNOWN);
    }

    private void trimState() {
        check.says("trim: STATE: there are no SAMPLES.");
        refused("with pieces", PromiseEdgeTest::withoutSamples, x -> x.trim(2), STATE);
        refused("without pieces", x -> x.give(0, 1), x -> x.trim(0), STATE);
    }

    private void trimLeavesTheRest() {
        check.says("A dictionary is TRIMMED: how many PIECES went.");
        refused("none went", Bench::furnish, x -> x.trim(2), 0);
        TrainedSegments x = new TrainedSegments();
        furnish(x);
        x.forget();
        samples(x, "q");
        x.pack(NONE);
        write(x, "zabcabc");
        x.pack(0);
        write(x, "tape");
        check.due("both went", x.trim(2), 2);
        check.due("ID stays", x.told(2, 0), 9);
        check.due("the other dictionary stays", x.told(0, 2), 3);
        check.due("the tape stays", x.about(0), 4);
        check.due("OUT stays", x.about(3), 10);
        check.due("its items stay", x.about(5), 3);
        check.due("its matches stay", x.about(6), 2);
    }

    private void dropUnknown() {
        check.says("drop: UNKNOWN (also not there).");
        for (int d : NO_NUMBERS) {
            refused("number " + d, Bench::furnish, x -> x.drop(d), UNKNOWN);
        }
        refused("not there", Bench::furnish, x -> x.drop(1), UNKNOWN);
    }

    private void dropIsNotThereAnyMore() {
        check.says("A dictionary is not there any more: how many PIECES it had.");
        TrainedSegments x = new TrainedSegments();
        furnish(x);
        x.give(5, 3);
        check.due("tape given", x.told(5, 2), 4);
        check.due("two pieces", x.drop(2), 2);
        check.due("one piece", x.drop(0), 1);
        x.give(4, 1);
        check.due("none", x.drop(4), 0);
        check.due("again", x.drop(4), UNKNOWN);
        check.due("told", x.told(2, 0), UNKNOWN);
        check.due("content", Check.told(() -> x.content(2, 0)), NULL);
        check.due("the other stays", x.about(2), 1);
        check.due("best", x.best(0), NONE);
        x.give(2, 4);
        check.due("what was does not come again", x.told(2, 2), 0);
    }

    private void toldPieces() {
        check.says("10 and more: how many bytes PIECE what - 10 has");
        TrainedSegments x = new TrainedSegments();
        furnish(x);
        check.due("piece 0", x.told(2, 10), 4);
        check.due("piece 1", x.told(2, 11), 4);
        check.due("no piece 2", x.told(2, 12), OUTSIDE);
        check.due("the one piece", x.told(0, 10), 3);
        check.due("no other", x.told(0, 11), OUTSIDE);
    }

    private void toldUnknown() {
        check.says("told: UNKNOWN (also not there)");
        for (int what : new int[] {0, 3, 10, 4, -1}) {
            for (int d : NO_NUMBERS) {
                refused("number " + d + ", " + what, Bench::furnish, x -> x.told(d, what), UNKNOWN);
            }
            refused("not there, " + what, Bench::furnish, x -> x.told(1, what), UNKNOWN);
        }
    }

    private void toldOutside() {
        check.says("told: OUTSIDE (also no such PIECE).");
        for (int what : new int[] {4, 5, 9, -1, 12, 13, Integer.MAX_VALUE, Integer.MIN_VALUE, Integer.MIN_VALUE + 9}) {
            refused("what " + what, Bench::furnish, x -> x.told(2, what), OUTSIDE);
        }
        refused("no piece 0", x -> x.give(0, 1), x -> x.told(0, 10), OUTSIDE);
    }

    private void contentWithSign() {
        check.says("Byte i of a dictionary's bytes, with sign.");
        TrainedSegments x = new TrainedSegments();
        feedAll(x, 0, 127, 128, 255);
        x.give(5, 1);
        int[] due = {0, 127, -128, -1};
        for (int i = 0; i < due.length; i++) {
            check.due("byte " + i, x.content(5, i), due[i]);
        }
        fill(x, 80);
        x.give(0, 1);
        check.due("byte 79", x.content(0, 79), 79);
    }

    private void contentNotThere() {
        check.says("NullPointerException: it is not there");
        for (int d : new int[] {1, 3, 4, 5}) {
            changesNothing("number " + d, Bench::furnish, x -> x.content(d, 0), NULL);
        }
        changesNothing("all of a new object", PromiseEdgeTest::nothing, x -> x.content(0, 0), NULL);
        check.says("(Of several: the number, NullPointer, the byte.)");
        changesNothing("NullPointer ahead of the byte", Bench::furnish, x -> x.content(1, -1), NULL);
        changesNothing("and of a far byte", Bench::furnish, x -> x.content(1, 80), NULL);
        changesNothing("the number ahead of NullPointer", Bench::furnish, x -> x.content(6, 0), INDEX);
        changesNothing("NONE is no number", Bench::furnish, x -> x.content(NONE, 0), INDEX);
    }

    private void contentNoSuchNumberOrByte() {
        check.says("ArrayIndexOutOfBoundsException: no such number, byte.");
        for (int d : NO_NUMBERS) {
            changesNothing("number " + d, Bench::furnish, x -> x.content(d, 0), INDEX);
            changesNothing("number " + d + ", byte -1", Bench::furnish, x -> x.content(d, -1), INDEX);
        }
        for (int i : new int[] {-1, 8, 9, 79, 80, Integer.MIN_VALUE, Integer.MAX_VALUE}) {
            changesNothing("byte " + i, Bench::furnish, x -> x.content(2, i), INDEX);
        }
        changesNothing("no bytes", x -> x.give(0, 1), x -> x.content(0, 0), INDEX);
        changesNothing("bytes that went by trimming", x -> {
            furnish(x);
            x.forget();
            samples(x, "wxyz");
            x.trim(2);
        }, x -> x.content(2, 4), INDEX);
    }

    private void packEmptiesTheTape() {
        check.says("OUT becomes THE TAPE, which is empty then, PACKED by a dictionary (NONE: by none): how many bytes.");
        TrainedSegments x = new TrainedSegments();
        furnish(x);
        check.due("left, by none", x.pack(NONE), 9);
        check.due("tape", x.about(0), 0);
        check.due("OUT", x.about(3), 9);
        check.due("an empty tape", x.pack(0), 4);
        check.due("OUT has less then", x.about(3), 4);
        check.due("ID", x.out(0), 7);
        check.due("TEXT stays", x.about(4), 2);
        fill(x, 200);
        check.due("a full tape", x.pack(NONE), 211);
        check.due("the last byte", x.out(210), 199);
    }

    private void packUnknown() {
        check.says("pack: UNKNOWN (also not there).");
        for (int d : new int[] {-2, 6, -101, Integer.MIN_VALUE, Integer.MAX_VALUE}) {
            refused("number " + d, Bench::furnish, x -> x.pack(d), UNKNOWN);
        }
        refused("not there", Bench::furnish, x -> x.pack(1), UNKNOWN);
        refused("not there, an empty tape", PromiseEdgeTest::nothing, x -> x.pack(0), UNKNOWN);
    }

    private void outBytes() {
        check.says("Byte i of OUT, 0 .. 255.");
        TrainedSegments x = new TrainedSegments();
        packed("without sign", x, "\u0000\u007F\u0080\u00FF", NONE, 0, 0, 0, 4, 3, 0, 127, 128, 255);
    }

    private void outOutOfBounds() {
        check.says("out: ArrayIndexOutOfBoundsException.");
        for (int i : new int[] {-1, 10, 11, 210, 211, Integer.MIN_VALUE, Integer.MAX_VALUE}) {
            changesNothing("byte " + i, Bench::furnish, x -> x.out(i), INDEX);
        }
        TrainedSegments x = new TrainedSegments();
        furnish(x);
        check.due("byte 9 of 10", x.out(9), 2);
        x.pack(NONE);
        check.due("byte 8 of 9", x.out(8), 't');
        check.due("byte 9 of 9", Check.told(() -> x.out(9)), INDEX);
        fill(x, 200);
        x.pack(NONE);
        check.due("byte 211 of 211", Check.told(() -> x.out(211)), INDEX);
    }

    private void openEmptiesTheTape() {
        check.says("THE TAPE, which is empty then, is OPENED: how many bytes TEXT has");
        TrainedSegments x = new TrainedSegments();
        furnish(x);
        check.due("TEXT", x.about(4), 2);
        x.pack(NONE);
        opened("three bytes", x, 3, 0, 0, 0, 3, 2, 'o', 'n', 'e');
        check.due("tape", x.about(0), 0);
        textIs("TEXT", x, "one");
        opened("no bytes", x, 0, 0, 0, 0, 0);
        check.due("TEXT is empty", x.about(4), 0);
        check.due("OUT stays", x.about(3), 9);
    }

    private void openWrongLeavesText() {
        check.says("-200 less the WRONG place (TEXT stays)");
        int[][] wrong = {{}, {8}, {0, 1, 0}, {0, 0, 0, 201}, {0, 0, 0, 3, 0, 'x', 2}, {0, 0, 0, 9, 3, 'x', 'x', 'x', 'x'},
            {0, 0, 0, 4, 0, 'x', 32, 1}, {0, 0, 0, 1, 0, 'x', 0}};
        int[] due = {-200, -200, -201, -203, -206, -209, -207, -206};
        for (int i = 0; i < wrong.length; i++) {
            TrainedSegments x = new TrainedSegments();
            furnish(x);
            x.pack(NONE);
            opened("wrong row " + i, x, due[i], wrong[i]);
            check.due("the tape is empty all the same, row " + i, x.about(0), 0);
            textIs("TEXT, row " + i, x, "hi");
            check.due("feed begins anew", x.feed(1, 0), 1);
        }
    }

    private void textBytes() {
        check.says("Byte i of TEXT, 0 .. 255.");
        TrainedSegments x = new TrainedSegments();
        opened("four bytes", x, 4, 0, 0, 0, 4, 3, 0, 127, 128, 255);
        int[] due = {0, 127, 128, 255};
        for (int i = 0; i < due.length; i++) {
            check.due("byte " + i, x.text(i), due[i]);
        }
    }

    private void textOutOfBounds() {
        check.says("text: ArrayIndexOutOfBoundsException.");
        for (int i : new int[] {-1, 2, 3, 199, 200, Integer.MIN_VALUE, Integer.MAX_VALUE}) {
            changesNothing("byte " + i, Bench::furnish, x -> x.text(i), INDEX);
        }
        TrainedSegments x = new TrainedSegments();
        opened("three bytes", x, 3, 0, 0, 0, 3, 2, 'o', 'n', 'e');
        opened("one byte", x, 1, 0, 0, 0, 1, 0, 'x');
        check.due("bytes that were are gone", Check.told(() -> x.text(1)), INDEX);
    }

    private void sizeUnknown() {
        check.says("size: UNKNOWN (sample; dictionary, also not there).");
        for (int s : new int[] {-1, 2, 8, Integer.MIN_VALUE, Integer.MAX_VALUE}) {
            refused("sample " + s, Bench::furnish, x -> x.size(s, 0), UNKNOWN);
            refused("sample " + s + " by none", Bench::furnish, x -> x.size(s, NONE), UNKNOWN);
        }
        for (int d : new int[] {-2, 6, 1, Integer.MIN_VALUE, Integer.MAX_VALUE}) {
            refused("dictionary " + d, Bench::furnish, x -> x.size(0, d), UNKNOWN);
        }
        refused("a sample of those forgotten", PromiseEdgeTest::withoutSamples, x -> x.size(0, NONE), UNKNOWN);
        refused("both", Bench::furnish, x -> x.size(2, 6), UNKNOWN);
    }

    private void sizeLeavesTheRest() {
        check.says("How many bytes a SAMPLE has, PACKED by a dictionary (NONE: by none).");
        refused("by a dictionary", Bench::furnish, x -> x.size(0, 2), 4 + 4);
        refused("by none", Bench::furnish, x -> x.size(1, NONE), 4 + 5 + 4);
        refused("the eighth sample", PromiseEdgeTest::withEightSamples, x -> x.size(7, NONE), 4 + 3 + 2);
        refused("by a dictionary without pieces", PromiseEdgeTest::withEightSamples, x -> x.size(7, 0), 4 + 3 + 2);
    }

    private void bestOfSeveral() {
        check.says("The dictionary by which a SAMPLE has the fewest bytes, of several the first");
        TrainedSegments x = new TrainedSegments();
        samples(x, "abcdef");
        give(x, 5, 1, "abcdef");
        check.due("the last dictionary", x.best(0), 5);
        give(x, 3, 1, "0abcdef0");
        check.due("of two the first", x.best(0), 3);
        give(x, 0, 1, "abc");
        check.due("not the first that helps", x.best(0), 3);
        give(x, 4, 1, "abc");
        check.due("nor a later one that helps less", x.best(0), 3);
        give(x, 0, 1, "abcdefg");
        check.due("the first dictionary", x.best(0), 0);
        x.drop(0);
        x.drop(3);
        check.due("the others are dropped", x.best(0), 5);
        refused("nothing changes", Bench::furnish, y -> y.best(0), 2);
    }

    private void bestByNone() {
        check.says("NONE: by none it has as few as by any.");
        TrainedSegments x = new TrainedSegments();
        samples(x, "abc", "xabcy");
        check.due("no dictionaries", x.best(0), NONE);
        x.give(0, 1);
        check.due("one without pieces", x.best(0), NONE);
        give(x, 1, 1, "ab");
        check.due("one that does not help", x.best(0), NONE);
        give(x, 2, 1, "abc");
        check.due("one that saves one byte", x.best(0), 2);
        check.due("its match saves nothing here", x.best(1), NONE);
    }

    private void bestUnknown() {
        check.says("best: UNKNOWN.");
        for (int s : new int[] {-1, 2, 8, Integer.MIN_VALUE, Integer.MAX_VALUE}) {
            refused("sample " + s, Bench::furnish, x -> x.best(s), UNKNOWN);
        }
        refused("no samples", PromiseEdgeTest::withoutSamples, x -> x.best(0), UNKNOWN);
        refused("no ninth", PromiseEdgeTest::withEightSamples, x -> x.best(8), UNKNOWN);
        refused("the eighth", PromiseEdgeTest::withEightSamples, x -> x.best(7), NONE);
    }

    private void shareCut() {
        check.says("Thousandths of the bytes of all SAMPLES PACKED by none that a dictionary saves, cut");
        TrainedSegments x = new TrainedSegments();
        samples(x, "abcd");
        x.give(0, 1);
        check.due("0 of 9", x.share(0), 0);
        give(x, 0, 1, "abc");
        check.due("1 of 9", x.share(0), 111);
        give(x, 0, 1, "abcd");
        check.due("3 of 9", x.share(0), 333);
        samples(x, "abc");
        check.due("5 of 17", x.share(0), 294);
        x.forget();
        samples(x, "abc", "q");
        give(x, 0, 1, "abc");
        check.due("2 of 14: 142.9", x.share(0), 142);
        refused("nothing changes", Bench::furnish, y -> y.share(2), (11 + 13 - 8 - 8) * 1000 / 24);
    }

    private void shareUnknown() {
        check.says("share: UNKNOWN (also not there).");
        for (int d : NO_NUMBERS) {
            refused("number " + d, Bench::furnish, x -> x.share(d), UNKNOWN);
        }
        refused("not there", Bench::furnish, x -> x.share(1), UNKNOWN);
    }

    private void shareWithoutSamples() {
        check.says("ArithmeticException: there are no SAMPLES.");
        changesNothing("none any more", PromiseEdgeTest::withoutSamples, x -> x.share(0), ARITHMETIC);
        changesNothing("none yet", x -> x.give(0, 1), x -> x.share(0), ARITHMETIC);
        refused("UNKNOWN is told ahead of it", PromiseEdgeTest::withoutSamples, x -> x.share(1), UNKNOWN);
        refused("also for no number", PromiseEdgeTest::withoutSamples, x -> x.share(6), UNKNOWN);
    }

    private void aboutOutside() {
        check.says("about: OUTSIDE.");
        for (int what : new int[] {-1, 7, Integer.MIN_VALUE, Integer.MAX_VALUE}) {
            refused("what " + what, Bench::furnish, x -> x.about(what), OUTSIDE);
        }
    }

    private void aboutItemsAndMatches() {
        check.says("How many: 0 bytes on THE TAPE, 1 SAMPLES, 2 DICTIONARIES that are there, 3 bytes of OUT, 4 of TEXT,"
                + " 5 ITEMS of OUT, 6 MATCHES of OUT.");
        int[] due = {4, 2, 2, 10, 2, 3, 2};
        for (int what = 0; what < due.length; what++) {
            int asked = what;
            refused("what " + what, Bench::furnish, x -> x.about(asked), due[what]);
        }
        TrainedSegments x = new TrainedSegments();
        furnish(x);
        x.pack(NONE);
        check.due("items of bytes as they are", x.about(5), 1);
        check.due("no matches", x.about(6), 0);
        x.pack(NONE);
        check.due("no items", x.about(5), 0);
    }

    private void ofSeveralRefusalsTheFirst() {
        check.says("Refusals are answers, of several the one told first: UNKNOWN .., OUTSIDE .., FULL, STATE.");
        refused("feed: OUTSIDE, FULL", x -> tapeOf(x, 200), x -> x.feed(9, 0), OUTSIDE);
        refused("feed: OUTSIDE, FULL", x -> tapeOf(x, 200), x -> x.feed(0, 0), OUTSIDE);
        SetUp fullAndLong = x -> {
            withEightSamples(x);
            fill(x, 37);
        };
        refused("sample: OUTSIDE, FULL", fullAndLong, TrainedSegments::sample, OUTSIDE);
        refused("train: UNKNOWN, OUTSIDE, STATE", PromiseEdgeTest::nothing, x -> x.train(6, 0, 1, 81), UNKNOWN);
        refused("train: UNKNOWN, OUTSIDE", Bench::furnish, x -> x.train(-1, 0, 4, 80), UNKNOWN);
        refused("train: UNKNOWN, STATE", PromiseEdgeTest::nothing, x -> x.train(6, 1, 4, 80), UNKNOWN);
        refused("train: ID, STATE", PromiseEdgeTest::nothing, x -> x.train(0, 256, 4, 80), OUTSIDE);
        refused("train: n, STATE", PromiseEdgeTest::nothing, x -> x.train(0, 1, 9, 80), OUTSIDE);
        refused("train: BOUND, STATE", PromiseEdgeTest::nothing, x -> x.train(0, 1, 4, 81), OUTSIDE);
        refused("give: UNKNOWN, ID", Bench::furnish, x -> x.give(6, 0), UNKNOWN);
        refused("give: UNKNOWN, 81 bytes", x -> tapeOf(x, 81), x -> x.give(-1, 1), UNKNOWN);
        refused("trim: UNKNOWN, STATE", PromiseEdgeTest::withoutSamples, x -> x.trim(6), UNKNOWN);
        refused("trim: not there, STATE", PromiseEdgeTest::withoutSamples, x -> x.trim(1), UNKNOWN);
        refused("told: UNKNOWN, OUTSIDE", Bench::furnish, x -> x.told(6, -1), UNKNOWN);
        refused("told: not there, OUTSIDE", Bench::furnish, x -> x.told(1, 4), UNKNOWN);
    }
}
