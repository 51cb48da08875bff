import java.util.Arrays;

/** The sentences of the document's terms that name an edge: the tape, samples, dictionaries, SUM, training, trimming. */
public final class TermsEdgeTest extends Bench {
    public static void main(String[] args) {
        TermsEdgeTest t = new TermsEdgeTest();
        t.tapeUpTo200();
        t.callsUpTo512();
        t.eightSamples();
        t.samplesNumberedFromNought();
        t.samplesOf1To40Bytes();
        t.dictionaries0To5();
        t.dictionariesNotThereAtFirst();
        t.idsOf1To255();
        t.eightyBytesTogether();
        t.mostPiecesOfThree();
        t.perhapsNoPieces();
        t.sumOfNothing();
        t.sumGoesRoundAt251();
        t.sumOfBytesWithoutSign();
        t.lengths2To8();
        t.nothingCoveredAtFirst();
        t.rowsStandInASample();
        t.rowsStandNotOnCoveredPlaces();
        t.countGoesOnBehindWhatWasCounted();
        t.countBeginsAnewInEachSample();
        t.countLeavesOutCovered();
        t.gainAbove0();
        t.greatestGainFirst();
        t.ofSeveralTheFirst();
        t.notMoreThanBound();
        t.onlyCountedPlacesAreCovered();
        t.latestPieceFirst();
        t.trimmingNotMoreBytes();
        t.trimmingFromTheFirstOn();
        t.trimmingByWhatIsLeft();
        t.trimmingMeasuresAnew();
        t.trimmingAllOrNone();
        t.check.end("TermsEdgeTest");
    }

    private void tapeUpTo200() {
        check.says("THE TAPE has up to 200 bytes.");
        TrainedSegments x = new TrainedSegments();
        for (int i = 1; i <= 24; i++) {
            check.due("feed(8)", x.feed(8, i), 8 * i);
        }
        check.due("192 and 7", x.feed(7, 0), 199);
        check.due("199 and 2", x.feed(2, 0), FULL);
        check.due("199 and 1", x.feed(1, 0), 200);
        check.due("200 and 1", x.feed(1, 0), FULL);
        check.due("200 and 8", x.feed(8, 0), FULL);
        check.due("bytes", x.about(0), 200);
    }

    private void callsUpTo512() {
        check.says("An object is used for at most 512 calls after it has been made");
        TrainedSegments x = new TrainedSegments();
        int calls = 0;
        while (calls < 508) {
            x.feed(8, 0x6162636461626364L);
            x.sample();
            x.train(0, 1, 4, 80);
            Check.told(() -> x.out(999));
            calls += 4;
        }
        // the ninth sample and later ones are refused, and 200 bytes wait on the tape
        check.due("call 509", x.about(0), 200);
        check.due("call 510", x.told(0, 1), 1);
        check.due("call 511", x.pack(0), 4 + 2 * 23);
        check.due("call 512", x.about(5), 23);
    }

    private void eightSamples() {
        check.says("SAMPLES, 8 at most");
        TrainedSegments x = new TrainedSegments();
        samples(x, "a", "b", "c", "d", "e", "f", "g");
        write(x, "h");
        check.due("the eighth", x.sample(), 7);
        write(x, "i");
        check.due("the ninth", x.sample(), FULL);
        check.due("samples", x.about(1), 8);
        x.forget();
        check.due("room again", x.sample(), 0);
    }

    private void samplesNumberedFromNought() {
        check.says("numbered from 0");
        TrainedSegments x = new TrainedSegments();
        write(x, "a");
        check.due("first", x.sample(), 0);
        write(x, "bc");
        check.due("second", x.sample(), 1);
        check.due("bytes of 0", x.size(0, NONE), 6);
        check.due("bytes of 1", x.size(1, NONE), 7);
        check.due("no 2", x.size(2, NONE), UNKNOWN);
    }

    private void samplesOf1To40Bytes() {
        check.says("are rows of 1 .. 40 bytes");
        TrainedSegments x = new TrainedSegments();
        check.due("0 bytes", x.sample(), OUTSIDE);
        fill(x, 1);
        check.due("1 byte", x.sample(), 0);
        check.due("1 byte packed", x.size(0, NONE), 6);
        fill(x, 40);
        check.due("40 bytes", x.sample(), 1);
        check.due("40 bytes packed", x.size(1, NONE), 4 + 40 + 2);
        fill(x, 41);
        check.due("41 bytes", x.sample(), OUTSIDE);
        fill(x, 159);
        check.due("200 bytes", x.sample(), OUTSIDE);
        check.due("samples", x.about(1), 2);
    }

    private void dictionaries0To5() {
        check.says("DICTIONARIES 0 .. 5");
        TrainedSegments x = new TrainedSegments();
        samples(x, "abcdabcdabcd");
        for (int d = 0; d <= 5; d++) {
            check.due("give " + d, x.give(d, 1 + d), 0);
        }
        for (int d = 0; d <= 5; d++) {
            check.due("ID of " + d, x.told(d, 0), 1 + d);
            check.due("train " + d, x.train(d, 11 + d, 4, 80), 1);
        }
        check.due("all six", x.about(2), 6);
        for (int d : new int[] {-1, 6, Integer.MIN_VALUE, Integer.MAX_VALUE}) {
            check.due("give " + d, x.give(d, 1), UNKNOWN);
            check.due("train " + d, x.train(d, 1, 4, 80), UNKNOWN);
            check.due("told " + d, x.told(d, 0), UNKNOWN);
        }
        check.due("still six", x.about(2), 6);
    }

    private void dictionariesNotThereAtFirst() {
        check.says("are not there (at first)");
        TrainedSegments x = new TrainedSegments();
        samples(x, "a");
        for (int d = 0; d <= 5; d++) {
            int number = d;
            check.due("told", x.told(d, 0), UNKNOWN);
            check.due("trim", x.trim(d), UNKNOWN);
            check.due("drop", x.drop(d), UNKNOWN);
            check.due("pack", x.pack(d), UNKNOWN);
            check.due("size", x.size(0, d), UNKNOWN);
            check.due("share", x.share(d), UNKNOWN);
            check.due("content", Check.told(() -> x.content(number, 0)), NULL);
        }
        check.due("best", x.best(0), NONE);
        check.due("how many", x.about(2), 0);
    }

    private void idsOf1To255() {
        check.says("or have an ID (1 .. 255)");
        TrainedSegments x = new TrainedSegments();
        samples(x, "a");
        for (int id : new int[] {1, 255}) {
            check.due("give " + id, x.give(0, id), 0);
            check.due("told by give", x.told(0, 0), id);
            check.due("train " + id, x.train(1, id, 4, 80), 0);
            check.due("told by train", x.told(1, 0), id);
            x.pack(1);
            check.due("in OUT", x.out(0), id);
        }
        for (int id : new int[] {0, 256, -1, 257, Integer.MIN_VALUE, Integer.MAX_VALUE}) {
            check.due("give " + id, x.give(0, id), OUTSIDE);
            check.due("train " + id, x.train(0, id, 4, 80), OUTSIDE);
        }
        check.due("still", x.told(0, 0), 255);
    }

    private void eightyBytesTogether() {
        check.says("80 bytes at most together");
        TrainedSegments x = new TrainedSegments();
        fill(x, 80);
        check.due("80 given", x.give(0, 1), 80);
        check.due("the last byte", x.content(0, 79), 79);
        check.due("no byte 80", Check.told(() -> x.content(0, 80)), INDEX);
        fill(x, 81);
        check.due("81 given", x.give(0, 1), OUTSIDE);
        check.due("80 still", x.told(0, 2), 80);
        // more rows gain than there is room for
        int[][] due = {{4, 3, 20}, {5, 3, 16}, {6, 2, 13}, {7, 2, 11}, {8, 2, 10}};
        for (int[] d : due) {
            TrainedSegments y = new TrainedSegments();
            rowsOf(y, d[0], d[1], d[2] + 1);
            check.due("pieces of " + d[0], y.train(0, 1, d[0], 80), d[2]);
            check.due("bytes by " + d[0], y.told(0, 2), d[0] * d[2]);
        }
    }

    private void mostPiecesOfThree() {
        check.says("PIECES one behind the other, 80 bytes at most together");
        TrainedSegments x = new TrainedSegments();
        // 13 rows of three go into a sample, so 104 in all, and to gain, each must be there five times
        rowsOf(x, 3, 5, 20);
        check.due("pieces", x.train(0, 1, 3, 80), 20);
        check.due("bytes", x.told(0, 2), 60);
        check.due("the last piece", x.told(0, 29), 3);
    }

    /** Samples with so many rows of n bytes, each of them so many times; no byte is in two rows. */
    private static void rowsOf(TrainedSegments x, int n, int times, int rows) {
        int[] bytes = new int[40];
        int length = 0;
        for (int i = 0; i < rows * times; i++) {
            if (length + n > 40) {
                feedAll(x, Arrays.copyOf(bytes, length));
                x.sample();
                length = 0;
            }
            for (int k = 0; k < n; k++) {
                bytes[length++] = i / times * n + k;
            }
        }
        feedAll(x, Arrays.copyOf(bytes, length));
        x.sample();
    }

    private void perhapsNoPieces() {
        check.says("(perhaps none)");
        TrainedSegments x = new TrainedSegments();
        samples(x, "abc");
        x.give(0, 3);
        x.train(1, 4, 4, 80);
        for (int d = 0; d <= 1; d++) {
            int number = d;
            check.due("ID", x.told(d, 0), 3 + d);
            check.due("pieces", x.told(d, 1), 0);
            check.due("bytes", x.told(d, 2), 0);
            check.due("no piece 0", x.told(d, 10), OUTSIDE);
            check.due("no byte 0", Check.told(() -> x.content(number, 0)), INDEX);
            check.due("size", x.size(0, d), 8);
        }
        check.due("both are there", x.about(2), 2);
    }

    private void sumOfNothing() {
        check.says("a is 1, b is 0 at first");
        TrainedSegments x = new TrainedSegments();
        x.give(0, 1);
        check.due("SUM", x.told(0, 3), 1);
        x.feed(1, 0);
        x.give(0, 1);
        check.due("SUM of a byte 0", x.told(0, 3), 257);
    }

    private void sumGoesRoundAt251() {
        check.says("a becomes a + it modulo 251, then b becomes b + a modulo 251");
        sumIs(256 * 250 + 250, 249);
        sumIs(0, 250);
        sumIs(256 + 1, 251);
        sumIs(256 * 249 + 250, 249, 0);
        sumIs(256 * 249 + 0, 248, 2);
        sumIs(256 * 0 + 1, 249, 2);
        sumIs(256 * 1 + 2, 249, 3);
    }

    private void sumIs(int due, int... bytes) {
        TrainedSegments x = new TrainedSegments();
        feedAll(x, bytes);
        x.give(0, 1);
        check.due("SUM of " + Arrays.toString(bytes), x.told(0, 3), due);
    }

    private void sumOfBytesWithoutSign() {
        check.says("by each byte (0 .. 255)");
        sumIs(256 * 5 + 5, 255);
        sumIs(256 * 129 + 129, 128);
        sumIs(256 * 128 + 128, 127);
        int[] most = new int[80];
        Arrays.fill(most, 255);
        // a is 1 + 80 * 4, b is 80 + 4 * (1 + 2 + .. + 80)
        sumIs(256 * (13040 % 251) + 321 % 251, most);
    }

    private void lengths2To8() {
        check.says("TRAINING, with a length n (2 .. 8)");
        TrainedSegments x = new TrainedSegments();
        samples(x, "abcdefghabcdefghabcdefgh");
        for (int n : new int[] {1, 9, 0, -1, Integer.MIN_VALUE, Integer.MAX_VALUE}) {
            check.due("n " + n, x.train(0, 1, n, 80), OUTSIDE);
        }
        check.due("n 2", x.train(0, 1, 2, 80), 0);
        check.due("n 8", x.train(0, 1, 8, 80), 1);
        dictionary("by 8", x, 0, "abcdefgh");
    }

    private void nothingCoveredAtFirst() {
        check.says("At first no place of a SAMPLE is COVERED.");
        TrainedSegments x = new TrainedSegments();
        samples(x, "abcdabcdabcd");
        for (int i = 0; i < 3; i++) {
            check.due("time " + i, x.train(i, 1, 4, 80), 1);
            dictionary("the same each time", x, i, "abcd");
        }
        x.train(0, 1, 4, 3);
        check.due("nor after one without a piece", x.train(0, 1, 4, 4), 1);
    }

    private void rowsStandInASample() {
        check.says("A ROW is n bytes that stand somewhere in a SAMPLE");
        trained("as long as a sample", 8, 1, "abcdefgh", "abcdefgh");
        trained("longer than a sample", 8, 0, "abcdefg", "abcdefg", "abcdefg", "abcdefg");
        trained("over two samples", 8, 0, "abcd", "efgh", "abcd", "efgh", "abcd", "efgh");
        trained("bytes 0 behind a sample's end", 8, 0, "\0", "\0\0", "\0\0\0\0\0\0\0", "\0");
        trained("bytes 0 behind other bytes", 4, 0, "abc", "abc", "abc", "abc\0", "abc", "abc");
        String fore = "0123456789ABCDEFGHIJKLMNOPQRSTUV";
        trained("the last places of 40", 8, 1, fore + "stuvwxyz", "stuvwxyz");
        trained("the first places", 8, 1, "stuvwxyz" + fore, "stuvwxyz");
        trained("one byte of it is behind place 39", 8, 0, fore + "!stuvwxy", "zstuvwxyz");
        trained("in the eighth sample", 6, 1, "a", "b", "c", "d", "e", "f", "stuvwx", "stuvwx");
    }

    private void trained(String what, int n, int pieces, String... texts) {
        TrainedSegments x = new TrainedSegments();
        samples(x, texts);
        check.due(what, x.train(0, 1, n, 80), pieces);
    }

    private void rowsStandNotOnCoveredPlaces() {
        check.says("at places that are not COVERED");
        TrainedSegments x = new TrainedSegments();
        // bcda would stand three times, each time on places of abcd
        samples(x, "abcdabcdabcdabcd");
        check.due("one", x.train(0, 1, 4, 80), 1);
        dictionary("abcd alone", x, 0, "abcd");
        x.forget();
        // Sabc stands first in sample 0, but its S is covered by then, so wxyz comes ahead of it
        samples(x, "PQRSabcPQRSPQRSPQRSPQRS", "wxyzwxyzwxyz", "Sabc.Sabc,Sabc");
        x.train(0, 1, 4, 80);
        dictionary("a covered place is no place of a row", x, 0, "SabcwxyzPQRS");
    }

    private void countGoesOnBehindWhatWasCounted() {
        check.says("nor one of those where it was counted just before in this going through");
        trained("11 in fours: 2", 4, 0, "aaaaaaaaaaa");
        trained("12 in fours: 3", 4, 1, "aaaaaaaaaaaa");
        trained("abababababab in sixes: 2", 6, 1, "abababababab");
        trained("abababababa in sixes: 1", 6, 0, "abababababa");
        trained("40 in eights", 8, 1, "a".repeat(40));
        trained("15 in eights: 1", 8, 0, "a".repeat(15));
        trained("16 in eights: 2", 8, 1, "a".repeat(16));
    }

    private void countBeginsAnewInEachSample() {
        check.says("going through all SAMPLES, each from the left on");
        trained("1, 1 and 1", 4, 1, "aaaaaaa", "aaaaaaa", "aaaaaaa");
        trained("1 and 1", 4, 0, "aaaaaaa", "aaaaaaa");
        trained("1 in each of 8 by 3: 8", 3, 1, "abc", "abc", "abc", "abc", "abc", "abc", "abc", "abc");
        trained("2 behind what was counted in the sample ahead", 4, 1, "xaaaa", "aaaa", "aaaa");
    }

    private void countLeavesOutCovered() {
        check.says("at how many places it stands, with none of its places COVERED");
        TrainedSegments x = new TrainedSegments();
        // defg stands three times, but once on the d of abcd: two are left, and they do not gain
        samples(x, "abcdefg.abcd.abcd.abcd", "defg.defg");
        x.train(0, 1, 4, 80);
        dictionary("two are left", x, 0, "abcd");
        samples(x, "defg");
        x.train(0, 1, 4, 80);
        dictionary("three are left", x, 0, "defgabcd");
    }

    private void gainAbove0() {
        check.says("Its GAIN is (n - 2) times COUNT, less n + 1. .. is TAKEN, if GAIN is above 0");
        int[][] enough = {{3, 5}, {4, 3}, {5, 3}, {6, 2}, {7, 2}, {8, 2}};
        for (int[] e : enough) {
            String[] texts = new String[e[1]];
            Arrays.fill(texts, "abcdefgh".substring(0, e[0]));
            trained("n " + e[0] + ", COUNT " + e[1], e[0], 1, texts);
            trained("n " + e[0] + ", COUNT " + (e[1] - 1), e[0], 0, Arrays.copyOf(texts, e[1] - 1));
        }
        String[] most = new String[8];
        Arrays.fill(most, "ab".repeat(20));
        trained("n 2, COUNT 160", 2, 0, most);
    }

    private void greatestGainFirst() {
        check.says("Again and again the ROW of the greatest GAIN");
        TrainedSegments x = new TrainedSegments();
        samples(x, "abcdabcdabcd", "efghefghefghefgh", "ijklijklijklijklijkl");
        x.train(0, 1, 4, 4);
        dictionary("one", x, 0, "ijkl");
        x.train(0, 1, 4, 8);
        dictionary("two", x, 0, "efghijkl");
        x.train(0, 1, 4, 12);
        dictionary("three", x, 0, "abcdefghijkl");
    }

    private void ofSeveralTheFirst() {
        check.says("of several that which stands first (by SAMPLES, then by places)");
        firstOf("by places", "qrst", "qrstqrstqrstabcdabcdabcd");
        firstOf("by places, the bytes do not count", "abcd", "abcdabcdabcdqrstqrstqrst");
        firstOf("by samples", "qrst", "qrstqrstqrst", "abcdabcdabcd");
        firstOf("samples ahead of places", "qrst", "0123456789qrstqrstqrst", "abcdabcdabcd");
        firstOf("the first place alone counts", "qrst", "qrst", "abcdabcdabcd", "qrstqrst");
        firstOf("one place further left", "abcd", "abcde.abcde,abcde");
    }

    private void firstOf(String what, String due, String... texts) {
        TrainedSegments x = new TrainedSegments();
        samples(x, texts);
        x.train(0, 1, 4, 4);
        dictionary(what, x, 0, due);
    }

    private void notMoreThanBound() {
        check.says("and all that were TAKEN have not more than BOUND bytes with it");
        TrainedSegments x = new TrainedSegments();
        rowsOf(x, 5, 3, 3);
        int[][] due = {{0, 0}, {4, 0}, {5, 1}, {9, 1}, {10, 2}, {14, 2}, {15, 3}, {16, 3}, {80, 3}};
        for (int[] d : due) {
            check.due("BOUND " + d[0], x.train(0, 1, 5, d[0]), d[1]);
            check.due("bytes by BOUND " + d[0], x.told(0, 2), 5 * d[1]);
        }
    }

    private void onlyCountedPlacesAreCovered() {
        check.says("then places where it was counted are COVERED");
        TrainedSegments x = new TrainedSegments();
        // aaa is counted at the left of each aaaa, so the fourth a is free for abc
        samples(x, "aaaabcaaaabcaaaabcaaaabcaaaabcaaa");
        check.due("two", x.train(0, 1, 3, 80), 2);
        dictionary("abc is taken behind aaa", x, 0, "abcaaa");
    }

    private void latestPieceFirst() {
        check.says("PIECES are what was TAKEN, the latest one first.");
        TrainedSegments x = new TrainedSegments();
        rowsOf(x, 4, 3, 5);
        check.due("five", x.train(0, 1, 4, 80), 5);
        for (int i = 0; i < 20; i++) {
            check.due("byte " + i, x.content(0, i), (4 - i / 4) * 4 + i % 4);
        }
    }

    private void trimmingNotMoreBytes() {
        check.says("goes, if all SAMPLES, PACKED by what is left without it, have together not more bytes than with it");
        TrainedSegments x = new TrainedSegments();
        samples(x, "abc", "xyz");
        give(x, 0, 1, "abc");
        check.due("one byte more without it, of one sample", x.trim(0), 0);
        dictionary("stays", x, 0, "abc");
        x.forget();
        // a match of 3 saves one byte, and the plain item behind it costs one
        samples(x, "xabcy");
        check.due("as many without it", x.size(0, 0), x.size(0, NONE));
        check.due("goes then", x.trim(0), 1);
        dictionary("gone", x, 0, "");
    }

    private void trimmingFromTheFirstOn() {
        check.says("TRIMMING: each PIECE, from the first one on");
        TrainedSegments x = new TrainedSegments();
        samples(x, "12abc12abc12abc", "3abc43abc43abc43abc4");
        x.train(0, 1, 5, 80);
        dictionary("both hold abc", x, 0, "12abc3abc4");
        x.forget();
        samples(x, "abc");
        check.due("the first goes, the second is wanted then", x.trim(0), 1);
        dictionary("left", x, 0, "3abc4");
    }

    private void trimmingByWhatIsLeft() {
        check.says("PACKED by what is left without it");
        TrainedSegments x = new TrainedSegments();
        samples(x, "abcd.abcd.abcd.", "efghefghefghefgh", "ijklijklijklijklijkl");
        x.train(0, 1, 4, 80);
        dictionary("three", x, 0, "abcdefghijkl");
        x.forget();
        // ghij stands on two pieces, so both are wanted; abcd is not
        samples(x, "ghij");
        check.due("one goes", x.trim(0), 1);
        dictionary("two are left", x, 0, "efghijkl");
        check.due("their lengths", x.told(0, 11), 4);
        check.due("no third", x.told(0, 12), OUTSIDE);
        x.forget();
        samples(x, "abcd.abcd.abcd.", "efghefghefghefgh", "ijklijklijklijklijkl");
        x.train(0, 1, 4, 80);
        x.forget();
        // without efgh, dijkl stands in what is left, as one row
        samples(x, "abcd", "dijkl");
        check.due("the one between goes", x.trim(0), 1);
        dictionary("those beside it stay", x, 0, "abcdijkl");
        check.due("dijkl is one match then", x.size(1, 0), 6);
    }

    private void trimmingMeasuresAnew() {
        check.says("not more bytes than with it");
        TrainedSegments x = new TrainedSegments();
        samples(x, "wxyzwxyzwxyzwxyzwxyzwxyz", "efghefghefghefghefgh", "mnopmnopmnopmnop", "abcdabcdabcd");
        x.train(0, 1, 4, 80);
        dictionary("four", x, 0, "abcdmnopefghwxyz");
        x.forget();
        samples(x, "abcdefgh", "abcdefgh", "wxyz");
        // 22 bytes with all, 18 without mnop; without wxyz 21, which is more than 18
        check.due("one goes", x.trim(0), 1);
        dictionary("three are left", x, 0, "abcdefghwxyz");
    }

    private void trimmingAllOrNone() {
        check.says("each PIECE .. goes, if ..");
        TrainedSegments x = new TrainedSegments();
        samples(x, "abcdabcdabcd", "wxyzwxyzwxyzwxyz");
        x.train(0, 1, 4, 80);
        x.train(1, 2, 4, 0);
        check.due("no pieces, none goes", x.trim(1), 0);
        check.due("none goes", x.trim(0), 0);
        dictionary("both are left", x, 0, "abcdwxyz");
        x.forget();
        samples(x, "q");
        check.due("all go", x.trim(0), 2);
        check.due("there, without pieces", x.told(0, 1), 0);
        check.due("SUM of none", x.told(0, 3), 1);
        check.due("none is left to go", x.trim(0), 0);
        TrainedSegments y = new TrainedSegments();
        rowsOf(y, 4, 3, 20);
        check.due("20", y.train(0, 1, 4, 80), 20);
        y.forget();
        fill(y, 3);
        y.sample();
        check.due("19 of 20 go", y.trim(0), 19);
        check.due("the last piece stays", y.content(0, 0), 0);
    }
}
