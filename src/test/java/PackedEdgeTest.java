import java.util.Arrays;

/** The sentences on PACKED and OPENED that name an edge. */
public final class PackedEdgeTest extends Bench {
    // SUM of abc: a is 98, 196, 44; b is 98, 43, 87
    private static final int ABC_HIGH = 87;
    private static final int ABC_LOW = 44;

    public static void main(String[] args) {
        PackedEdgeTest t = new PackedEdgeTest();
        t.textOfUpTo200Bytes();
        t.idByNone();
        t.sumByNone();
        t.sumHigherByteFirst();
        t.plainItemsOf1To32();
        t.matchesOf3To9();
        t.distanceFrom1();
        t.distanceAt256();
        t.distanceFarthest();
        t.matchesIntoThemselves();
        t.matchesOnTheDictionarysEnd();
        t.fewestBytes();
        t.matchAheadOfPlain();
        t.longestMatch();
        t.leastDistance();
        t.mostPlainBytes();
        t.wrongId();
        t.firstOfSeveralWithTheId();
        t.wrongSum();
        t.wrongLength();
        t.itemGivesTooMuch();
        t.distanceTooFar();
        t.firstByteBehindTheLastItem();
        t.endIfMoreIsWanted();
        t.firstWrongByteCounts();
        t.opensAllThatCanStand();
        t.check.end("PackedEdgeTest");
    }

    private void textOfUpTo200Bytes() {
        check.says("PACKED is a TEXT of up to 200 bytes");
        TrainedSegments x = new TrainedSegments();
        packed("no bytes", x, "", NONE, 0, 0, 0, 0);
        check.due("no items", x.about(5), 0);
        packed("one byte", x, "a", NONE, 0, 0, 0, 1, 0, 'a');
        check.due("one item", x.about(5), 1);
        fill(x, 200);
        check.due("200 bytes", x.pack(NONE), 4 + 200 + 7);
        check.due("how many, told", x.out(3), 200);
        check.due("items", x.about(5), 7);
        check.due("matches", x.about(6), 0);
        check.due("the last byte", x.out(210), 199);
        feedAll(x, new int[200]);
        // two bytes as they are, and 22 matches of 9
        check.due("200 bytes 0", x.pack(NONE), 4 + 3 + 2 * 22);
        check.due("items", x.about(5), 23);
        check.due("matches", x.about(6), 22);
    }

    private void idByNone() {
        check.says("ID (0: by none)");
        TrainedSegments x = new TrainedSegments();
        give(x, 0, 255, "abc");
        packed("by none", x, "", NONE, 0, 0, 0, 0);
        packed("by 255", x, "", 0, 255, ABC_HIGH, ABC_LOW, 0);
        for (int d = 1; d <= 5; d++) {
            x.give(d, d);
        }
        packed("by none, when all are there", x, "a", NONE, 0, 0, 0, 1, 0, 'a');
        opened("opened by none, when all are there", x, 1, 0, 0, 0, 1, 0, 'a');
    }

    private void sumByNone() {
        check.says("SUM of the dictionary's bytes (.. 0 by none)");
        TrainedSegments x = new TrainedSegments();
        x.give(0, 1);
        packed("by none", x, "a", NONE, 0, 0, 0, 1, 0, 'a');
        packed("by a dictionary without bytes", x, "a", 0, 1, 0, 1, 1, 0, 'a');
    }

    private void sumHigherByteFirst() {
        check.says("(the higher byte first ..)");
        TrainedSegments x = new TrainedSegments();
        // a is 250, b is 250 and then 249
        feedAll(x, 249, 0);
        x.give(0, 1);
        packed("249 and 250", x, "", 0, 1, 249, 250, 0);
        feedAll(x, 250);
        x.give(0, 1);
        packed("both 0", x, "", 0, 1, 0, 0, 0);
    }

    private void plainItemsOf1To32() {
        check.says("a byte c of 0 .. 31, and c + 1 bytes as they are");
        int[][] due = {{1, 0}, {2, 1}, {31, 30}, {32, 31}, {33, 31, 0}, {63, 31, 30}, {64, 31, 31}, {65, 31, 31, 0},
            {192, 31, 31, 31, 31, 31, 31}, {193, 31, 31, 31, 31, 31, 31, 0}};
        for (int[] d : due) {
            TrainedSegments x = new TrainedSegments();
            fill(x, d[0]);
            check.due(d[0] + " bytes", x.pack(NONE), 4 + d[0] + d.length - 1);
            check.due(d[0] + " bytes, items", x.about(5), d.length - 1);
            for (int i = 1; i < d.length; i++) {
                check.due(d[0] + " bytes, c of item " + i, x.out(4 + 33 * (i - 1)), d[i]);
            }
        }
    }

    private void matchesOf3To9() {
        check.says("c / 32 and 2 more bytes (3 .. 9)");
        TrainedSegments x = new TrainedSegments();
        give(x, 0, 1, "abcdefghijklmnopqrs");
        items("2 bytes are no match", x, "ab", 0, 1, 'a', 'b');
        for (int n = 3; n <= 9; n++) {
            items(n + " bytes", x, "abcdefghi".substring(0, n), 0, 32 * (n - 2), 18);
        }
        items("10 bytes", x, "abcdefghij", 0, 224, 18, 0, 'j');
        items("12 bytes", x, "abcdefghijkl", 0, 224, 18, 32, 18);
        items("18 bytes", x, "abcdefghijklmnopqr", 0, 224, 18, 224, 18);
    }

    private void distanceFrom1() {
        check.says("D is 256 times c modulo 32, and e, and 1");
        TrainedSegments x = new TrainedSegments();
        items("D 1", x, "aaaa", NONE, 0, 'a', 32, 0);
        items("D 2", x, "ababa", NONE, 1, 'a', 'b', 32, 1);
        items("D 3", x, "abcabc", NONE, 2, 'a', 'b', 'c', 32, 2);
    }

    private void distanceAt256() {
        check.says("D is 256 times c modulo 32, and e, and 1");
        TrainedSegments x = new TrainedSegments();
        fill(x, 80);
        x.give(0, 1);
        // 80 bytes of the dictionary and 176 others stand ahead of the match
        feedAll(x, otherBytes(176, 0, 1, 2));
        check.due("D 256", x.pack(0), 4 + 176 + 6 + 2);
        check.due("c", x.out(186), 32);
        check.due("e", x.out(187), 255);
        feedAll(x, otherBytes(177, 0, 1, 2));
        check.due("D 257", x.pack(0), 4 + 177 + 6 + 2);
        check.due("c", x.out(187), 32 + 1);
        check.due("e", x.out(188), 0);
    }

    /** So many bytes in which no three come again, then some more. */
    private static int[] otherBytes(int n, int... more) {
        int[] bytes = new int[n + more.length];
        for (int i = 0; i < n; i++) {
            bytes[i] = i < 176 ? 80 + i : 254 - 2 * (i - 176);
        }
        System.arraycopy(more, 0, bytes, n, more.length);
        return bytes;
    }

    private void distanceFarthest() {
        check.says("the same as those from D on before, in the row of the dictionary's bytes and the TEXT behind them");
        TrainedSegments x = new TrainedSegments();
        fill(x, 80);
        x.give(0, 1);
        feedAll(x, otherBytes(197, 0, 1, 2));
        check.due("from the dictionary's first byte to the text's last", x.pack(0), 4 + 197 + 7 + 2);
        check.due("c for D 277", x.out(208), 32 + 1);
        check.due("e for D 277", x.out(209), 20);
        feedAll(x, otherBytes(191, 0, 1, 2, 3, 4, 5, 6, 7, 8));
        check.due("nine bytes so far", x.pack(0), 4 + 191 + 6 + 2);
        check.due("c for D 271", x.out(201), 224 + 1);
        check.due("e for D 271", x.out(202), 14);
    }

    private void matchesIntoThemselves() {
        check.says("(these may go on into it)");
        TrainedSegments x = new TrainedSegments();
        items("9 by one byte", x, "aaaaaaaaaa", NONE, 0, 'a', 224, 0);
        items("8 by two bytes", x, "ababababab", NONE, 1, 'a', 'b', 192, 1);
        items("3 by two bytes", x, "ababa", NONE, 1, 'a', 'b', 32, 1);
    }

    private void matchesOnTheDictionarysEnd() {
        check.says("in the row of the dictionary's bytes and the TEXT behind them");
        TrainedSegments x = new TrainedSegments();
        give(x, 0, 1, "a");
        items("from the dictionary's last byte into the text", x, "aaaaaaaaa", 0, 224, 0);
        give(x, 0, 1, "xab");
        items("ab of the dictionary and c of the text", x, "cabc", 0, 0, 'c', 32, 2);
        items("ab of the dictionary and cc of the text", x, "ccabcc", 0, 1, 'c', 'c', 64, 3);
        items("the same, further on", x, "cdefabc", 0, 3, 'c', 'd', 'e', 'f', 32, 5);
    }

    private void fewestBytes() {
        check.says("It has the fewest bytes that there can be");
        TrainedSegments x = new TrainedSegments();
        give(x, 0, 1, "abcd#def");
        items("a shorter match now, a match then", x, "abcdef", 0, 32, 7, 32, 5);
        give(x, 0, 1, "abc#bcde");
        items("a byte as it is now, a longer match then", x, "abcde", 0, 0, 'a', 64, 4);
        give(x, 0, 1, "mno");
        items("a match of 3 between bytes saves nothing", x, "xmnoy", 0, 4, 'x', 'm', 'n', 'o', 'y');
        items("at the end it saves one", x, "xmno", 0, 0, 'x', 32, 3);
        items("at the front it saves one", x, "mnox", 0, 32, 2, 0, 'x');
        // 33 bytes as they are want two items, and so do those beside a match
        String fore = "0123456789ABCDEFGHIJKLMNOPQRST";
        give(x, 0, 1, "mno");
        write(x, fore + "mno" + "xyz");
        check.due("a match where a second item is wanted anyway", x.pack(0), 4 + 31 + 2 + 4);
    }

    private void matchAheadOfPlain() {
        check.says("a MATCH ahead of bytes as they are");
        TrainedSegments x = new TrainedSegments();
        give(x, 0, 1, "Xababcdefghi");
        items("X a b by a match, or X as it is: 4 bytes both", x, "Xabcdefghi", 0, 32, 11, 160, 9);
        check.due("matches", x.about(6), 2);
        give(x, 0, 1, "abc#bcd");
        items("a match and d, or a and a match", x, "abcd", 0, 32, 6, 0, 'd');
    }

    private void longestMatch() {
        check.says("of MATCHES the longest");
        TrainedSegments x = new TrainedSegments();
        give(x, 0, 1, "abcd#defg");
        items("4 and 3 or 3 and 4", x, "abcdefg", 0, 64, 8, 32, 6);
        give(x, 0, 1, "abcdefghijkl");
        items("9 and 3, or as many both", x, "abcdefghijkl", 0, 224, 11, 32, 11);
        give(x, 0, 1, "abcd--abc-");
        items("the longest ahead of the least D", x, "abcd", 0, 64, 9);
    }

    private void leastDistance() {
        check.says("then the least D");
        TrainedSegments x = new TrainedSegments();
        give(x, 0, 1, "abc-abc-");
        items("of two in the dictionary", x, "abc", 0, 32, 3);
        items("of dictionary and text", x, "abc!abc", 0, 32, 3, 0, '!', 32, 3);
        give(x, 0, 1, "aaaaaaaaaaaa");
        items("one that goes on into itself", x, "aaaa", 0, 64, 0);
    }

    private void mostPlainBytes() {
        check.says("of bytes as they are the most");
        TrainedSegments x = new TrainedSegments();
        items("8, or 4 and a match and 1", x, "abcdabce", NONE, 7, 'a', 'b', 'c', 'd', 'a', 'b', 'c', 'e');
        check.due("one item", x.about(5), 1);
        fill(x, 40);
        x.pack(NONE);
        check.due("32 and 8", x.out(4), 31);
        check.due("8 then", x.out(37), 7);
    }

    private void wrongId() {
        check.says("an ID that none of the DICTIONARIES has");
        TrainedSegments x = new TrainedSegments();
        opened("none is there", x, -200, 1, 0, 1, 0);
        opened("0 is by none", x, 0, 0, 0, 0, 0);
        give(x, 5, 7, "abc");
        opened("that of the last dictionary", x, 0, 7, ABC_HIGH, ABC_LOW, 0);
        opened("another one", x, -200, 8, ABC_HIGH, ABC_LOW, 0);
        opened("another one, nothing behind it", x, -200, 8);
        opened("255", x, -200, 255, 0, 0, 0);
        x.drop(5);
        opened("it is dropped", x, -200, 7, ABC_HIGH, ABC_LOW, 0);
    }

    private void firstOfSeveralWithTheId() {
        check.says("(of several that have it the first counts)");
        TrainedSegments x = new TrainedSegments();
        give(x, 4, 7, "xyz");
        give(x, 1, 7, "abc");
        opened("by the first", x, 3, 7, ABC_HIGH, ABC_LOW, 3, 32, 2);
        textIs("its bytes", x, "abc");
        int sum = x.told(4, 3);
        opened("not by the second", x, -201, 7, sum / 256, sum % 256, 3, 32, 2);
        x.drop(1);
        opened("by the second, when the first is dropped", x, 3, 7, sum / 256, sum % 256, 3, 32, 2);
        textIs("its bytes", x, "xyz");
    }

    private void wrongSum() {
        check.says("of SUM the first byte, if it is another one (and both are there)");
        TrainedSegments x = new TrainedSegments();
        give(x, 0, 7, "abc");
        opened("the higher byte", x, -201, 7, ABC_HIGH + 1, ABC_LOW, 0);
        opened("the lower byte", x, -201, 7, ABC_HIGH, ABC_LOW + 1, 0);
        opened("both changed about", x, -201, 7, ABC_LOW, ABC_HIGH, 0);
        opened("nothing behind them", x, -201, 7, 0, 0);
        opened("only one is there, a wrong one", x, -202, 7, ABC_HIGH + 1);
        opened("only one is there, the right one", x, -202, 7, ABC_HIGH);
        opened("none is there", x, -201, 7);
        opened("by none: the higher byte", x, -201, 0, 1, 0, 0);
        opened("by none: 1, as of no bytes", x, -201, 0, 0, 1, 0);
        opened("by none: only one is there", x, -202, 0, 9);
        x.give(0, 7);
        opened("by one without bytes it is 1", x, 0, 7, 0, 1, 0);
        opened("and not 0", x, -201, 7, 0, 0, 0);
        feedAll(x, 249, 0);
        x.give(0, 7);
        opened("249 and 250", x, 0, 7, 249, 250, 0);
    }

    private void wrongLength() {
        check.says("how many bytes: above 200");
        TrainedSegments x = new TrainedSegments();
        opened("201", x, -203, 0, 0, 0, 201);
        opened("255", x, -203, 0, 0, 0, 255, 0, 'a');
        opened("200, nothing behind it", x, -204, 0, 0, 0, 200);
        feedAll(x, matchesOfOneByte(200));
        check.due("200", x.open(), 200);
        check.due("the last byte", x.text(199), 'a');
        check.due("no byte 200", Check.told(() -> x.text(200)), INDEX);
        int[] oneMore = matchesOfOneByte(200);
        oneMore[3] = 201;
        feedAll(x, oneMore);
        check.due("201, though the items are 200", x.open(), -203);
    }

    /** So many bytes a: one as it is, matches of 9, and the rest one by one. */
    private static int[] matchesOfOneByte(int n) {
        int[] packed = new int[200];
        packed[3] = n;
        packed[5] = 'a';
        int length = 6;
        int still = n - 1;
        for (; still >= 9; still -= 9) {
            packed[length] = 224;
            length += 2;
        }
        for (; still > 0; still--) {
            packed[length + 1] = 'a';
            length += 2;
        }
        return Arrays.copyOf(packed, length);
    }

    private void itemGivesTooMuch() {
        check.says("c, if the ITEM gives more bytes than there are still to come");
        TrainedSegments x = new TrainedSegments();
        opened("2 for 2", x, 2, 0, 0, 0, 2, 1, 'h', 'i');
        opened("3 for 2", x, -204, 0, 0, 0, 2, 2, 'h', 'i', 'j');
        opened("3 for 2, and they are not there", x, -204, 0, 0, 0, 2, 2);
        opened("a second item, 1 for 1", x, 3, 0, 0, 0, 3, 1, 'h', 'i', 0, 'j');
        opened("a second item, 2 for 1", x, -207, 0, 0, 0, 3, 1, 'h', 'i', 1, 'j', 'k');
        opened("a match, 3 for 3", x, 4, 0, 0, 0, 4, 0, 'h', 32, 0);
        opened("a match, 4 for 3", x, -206, 0, 0, 0, 4, 0, 'h', 64, 0);
        opened("a match, 3 for 2", x, -206, 0, 0, 0, 3, 0, 'h', 32, 0);
        opened("a match, 9 for 9", x, 10, 0, 0, 0, 10, 0, 'h', 224, 0);
        opened("a match, 9 for 8", x, -206, 0, 0, 0, 9, 0, 'h', 224, 0);
        opened("a match without e", x, -206, 0, 0, 0, 3, 0, 'h', 32);
        opened("a match whose D is too much", x, -206, 0, 0, 0, 3, 0, 'h', 63, 255);
        int[] most = new int[4 + 33];
        most[3] = 32;
        most[4] = 31;
        feedAll(x, most);
        check.due("32 for 32", x.open(), 32);
        most[3] = 31;
        feedAll(x, most);
        check.due("32 for 31", x.open(), -204);
    }

    private void distanceTooFar() {
        check.says("or D, at e, is more than there are before");
        TrainedSegments x = new TrainedSegments();
        opened("nothing is before", x, -205, 0, 0, 0, 3, 32, 0);
        opened("D 1 of 1", x, 4, 0, 0, 0, 4, 0, 'h', 32, 0);
        opened("D 2 of 1", x, -207, 0, 0, 0, 4, 0, 'h', 32, 1);
        opened("D 256 of 1", x, -207, 0, 0, 0, 4, 0, 'h', 32, 255);
        opened("D 257 of 1", x, -207, 0, 0, 0, 4, 0, 'h', 33, 0);
        opened("D 8192 of 1", x, -207, 0, 0, 0, 4, 0, 'h', 63, 255);
        opened("D 8192 of 1, and 9 bytes", x, -207, 0, 0, 0, 10, 0, 'h', 255, 255);
        give(x, 0, 7, "abc");
        opened("D 3 of a dictionary's 3", x, 3, 7, ABC_HIGH, ABC_LOW, 3, 32, 2);
        textIs("its bytes", x, "abc");
        opened("D 4 of them", x, -205, 7, ABC_HIGH, ABC_LOW, 3, 32, 3);
        opened("D 4 of 3 and 1", x, 4, 7, ABC_HIGH, ABC_LOW, 4, 0, 'h', 32, 3);
        opened("D 5 of 3 and 1", x, -207, 7, ABC_HIGH, ABC_LOW, 4, 0, 'h', 32, 4);
        farthest(x);
    }

    /** 80 bytes of a dictionary and 197 of the text: 277 are before the last match. */
    private void farthest(TrainedSegments x) {
        fill(x, 80);
        x.give(0, 7);
        int[] packed = matchesOfOneByte(197);
        packed[0] = 7;
        packed[1] = x.told(0, 3) / 256;
        packed[2] = x.told(0, 3) % 256;
        packed[3] = 200;
        int[] far = Arrays.copyOf(packed, packed.length + 2);
        far[packed.length] = 33;
        far[packed.length + 1] = 20;
        feedAll(x, far);
        check.due("D 277 of 277", x.open(), 200);
        for (int i = 0; i < 3; i++) {
            check.due("byte " + (197 + i), x.text(197 + i), i);
        }
        far[packed.length + 1] = 21;
        feedAll(x, far);
        check.due("D 278 of 277", x.open(), -200 - packed.length - 1);
    }

    private void firstByteBehindTheLastItem() {
        check.says("the first byte behind the last ITEM");
        TrainedSegments x = new TrainedSegments();
        opened("behind no item", x, -204, 0, 0, 0, 0, 0);
        opened("several behind no item", x, -204, 0, 0, 0, 0, 0, 'a', 'b');
        opened("behind bytes as they are", x, -207, 0, 0, 0, 2, 1, 'h', 'i', 0);
        opened("several of them", x, -207, 0, 0, 0, 2, 1, 'h', 'i', 0, 'j');
        opened("behind a match", x, -208, 0, 0, 0, 4, 0, 'h', 32, 0, 255);
    }

    private void endIfMoreIsWanted() {
        check.says("the end, if more is wanted");
        TrainedSegments x = new TrainedSegments();
        give(x, 0, 7, "abc");
        int[] whole = {7, ABC_HIGH, ABC_LOW, 9, 32, 2, 1, 'h', 'i', 0, 'j', 32, 8};
        for (int n = 0; n < whole.length; n++) {
            opened("the first " + n + " bytes", x, -200 - n, Arrays.copyOf(whole, n));
        }
        opened("all of them", x, 9, whole);
        textIs("the text", x, "abchijabc");
        opened("and one more", x, -200 - whole.length, Arrays.copyOf(whole, whole.length + 1));
        int[] plainAtLast = {0, 0, 0, 4, 0, 'a', 2, 'b', 'c', 'd'};
        for (int n = 0; n < plainAtLast.length; n++) {
            opened("bytes as they are at last: " + n, x, -200 - n, Arrays.copyOf(plainAtLast, n));
        }
        opened("all of these", x, 4, plainAtLast);
        int[] full = new int[200];
        full[3] = 200;
        feedAll(x, full);
        check.due("a full tape ends at 200", x.open(), -400);
    }

    private void firstWrongByteCounts() {
        check.says("from the left on; WRONG is the first byte that can not stand there");
        TrainedSegments x = new TrainedSegments();
        opened("ID, SUM, length and c", x, -200, 9, 9, 9, 255, 255, 255);
        opened("SUM, length and c", x, -201, 0, 9, 9, 255, 255, 255);
        opened("length and c", x, -203, 0, 0, 0, 255, 255, 255);
        opened("c and e", x, -204, 0, 0, 0, 1, 255, 255);
        opened("e and the end", x, -205, 0, 0, 0, 10, 255, 255);
        opened("c of the second item and what is behind", x, -206, 0, 0, 0, 2, 0, 'h', 1, 'i', 'j', 'k');
    }

    private void opensAllThatCanStand() {
        check.says("OPENED: from the left on");
        TrainedSegments x = new TrainedSegments();
        opened("ways that are not the shortest", x, 4, 0, 0, 0, 4, 0, 'a', 0, 'a', 1, 'a', 'a');
        textIs("the text", x, "aaaa");
        opened("D that is not the least", x, 6, 0, 0, 0, 6, 2, 'a', 'a', 'a', 32, 2);
        textIs("the text", x, "aaaaaa");
        opened("into itself by two bytes", x, 11, 0, 0, 0, 11, 1, 'a', 'b', 224, 1);
        textIs("the text", x, "abababababa");
    }
}
