/** For each promise: ordinary inputs, edges that the document names, and wrong inputs; answers worked out by hand. */
public final class PromiseTest extends Bench {
    public static void main(String[] args) {
        PromiseTest t = new PromiseTest();
        t.newObject();
        t.feed();
        t.sample();
        t.forget();
        t.trainTakes();
        t.trainCounts();
        t.trainFillsADictionary();
        t.trainRefuses();
        t.give();
        t.trim();
        t.drop();
        t.told();
        t.content();
        t.pack();
        t.packPrefers();
        t.packFarAndLong();
        t.out();
        t.openHeader();
        t.openItems();
        t.text();
        t.size();
        t.best();
        t.share();
        t.about();
        t.check.end("PromiseTest");
    }

    private void newObject() {
        TrainedSegments x = new TrainedSegments();
        for (int what = 0; what <= 6; what++) {
            check.due("1 about(" + what + ")", x.about(what), 0);
        }
        check.due("1 out(0)", Check.told(() -> x.out(0)), INDEX);
        check.due("1 text(0)", Check.told(() -> x.text(0)), INDEX);
        for (int d = -1; d <= 6; d++) {
            check.due("1 told", x.told(d, 0), UNKNOWN);
        }
        check.due("1 size(0, NONE)", x.size(0, -1), UNKNOWN);
    }

    private void feed() {
        TrainedSegments x = new TrainedSegments();
        check.due("2 feed(3)", x.feed(3, 0x01020304050607F8L), 3);
        check.due("2 feed(8)", x.feed(8, 0x81FFFFFFFFFFFF00L), 11);
        check.due("2 feed(1)", x.feed(1, -1L), 12);
        x.give(0, 1);
        int[] due = {6, 7, -8, -127, -1, -1, -1, -1, -1, -1, 0, -1};
        for (int i = 0; i < due.length; i++) {
            check.due("2 byte " + i, x.content(0, i), due[i]);
        }
        for (int n : new int[] {0, 9, -1, Integer.MIN_VALUE, Integer.MAX_VALUE}) {
            check.due("2 feed(" + n + ")", x.feed(n, 1), OUTSIDE);
        }
        check.due("2 still empty", x.about(0), 0);
        fill(x, 196);
        check.due("2 feed(5) over 200", x.feed(5, 0), FULL);
        check.due("2 nothing came", x.about(0), 196);
        check.due("2 feed(4) to 200", x.feed(4, 0), 200);
        check.due("2 feed(1) at 200", x.feed(1, 0), FULL);
        check.due("2 feed(0) at 200", x.feed(0, 0), OUTSIDE);
        check.due("2 feed(9) at 200", x.feed(9, 0), OUTSIDE);
    }

    private void sample() {
        TrainedSegments x = new TrainedSegments();
        check.due("3 empty", x.sample(), OUTSIDE);
        fill(x, 41);
        check.due("3 41 bytes", x.sample(), OUTSIDE);
        check.due("3 the tape stays", x.about(0), 41);
        x.pack(-1);
        for (int i = 0; i < 8; i++) {
            fill(x, i == 0 ? 40 : i);
            check.due("3 number", x.sample(), i);
            check.due("3 the tape is empty", x.about(0), 0);
            check.due("3 samples", x.about(1), i + 1);
        }
        check.due("3 OUTSIDE ahead of FULL", x.sample(), OUTSIDE);
        fill(x, 5);
        check.due("3 a ninth", x.sample(), FULL);
        check.due("3 the tape stays when full", x.about(0), 5);
        check.due("3 still 8", x.about(1), 8);
    }

    private void forget() {
        TrainedSegments x = new TrainedSegments();
        check.due("4 none", x.forget(), 0);
        samples(x, "abc", "de");
        write(x, "abc");
        x.give(3, 9);
        write(x, "tape");
        check.due("4 two", x.forget(), 2);
        check.due("4 none left", x.about(1), 0);
        check.due("4 no sample 0", x.size(0, -1), UNKNOWN);
        check.due("4 dictionaries stay", x.about(2), 1);
        check.due("4 the tape stays", x.about(0), 4);
        check.due("4 numbers begin anew", x.sample(), 0);
    }

    private void trainTakes() {
        TrainedSegments x = new TrainedSegments();
        samples(x, "abcdabcdabcd", "wxyzwxyzwxyzwxyz");
        check.due("5 both", x.train(0, 255, 4, 80), 2);
        dictionary("5 the latest first", x, 0, "abcdwxyz");
        check.due("5 ID", x.told(0, 0), 255);
        check.due("5 just room", x.train(0, 1, 4, 8), 2);
        check.due("5 one byte short", x.train(0, 1, 4, 7), 1);
        dictionary("5 the greatest gain", x, 0, "wxyz");
        check.due("5 bound 4", x.train(0, 1, 4, 4), 1);
        check.due("5 bound 3", x.train(0, 1, 4, 3), 0);
        check.due("5 no pieces, but there", x.told(0, 2), 0);
        check.due("5 bound 0", x.train(5, 1, 4, 0), 0);
        check.due("5 there", x.about(2), 2);
        x.forget();
        samples(x, "qrstqrstqrst", "abcdabcdabcd");
        x.train(0, 1, 4, 80);
        dictionary("5 of several the first is taken first", x, 0, "abcdqrst");
        x.forget();
        samples(x, "abcdeabcdeabcde");
        x.train(0, 1, 4, 80);
        dictionary("5 covered places count no more", x, 0, "abcd");
        x.forget();
        samples(x, "PQRSabcPQRSPQRSPQRSPQRS", "wxyzwxyzwxyz", "Sabc.Sabc,Sabc");
        x.train(0, 1, 4, 80);
        dictionary("5 where a place is covered no row stands first", x, 0, "SabcwxyzPQRS");
    }

    private void trainCounts() {
        due5("aaaaaaaaaaa", 4, 0);
        due5("aaaaaaaaaaaa", 4, 1);
        due5("abcabcabcabc", 3, 0);
        due5("abcabcabcabcabc", 3, 1);
        due5("abababababababababababababababababababab", 2, 0);
        due5("abcde.abcde", 5, 0);
        due5("abcde.abcde.abcde", 5, 1);
        due5("abcdef.abcdef", 6, 1);
        due5("abcdefg.abcdefg", 7, 1);
        due5("abcdefgh.abcdefgh", 8, 1);
        due5("abcdefghabcdefg", 8, 0);
        due5("a", 8, 0);
        TrainedSegments x = new TrainedSegments();
        samples(x, "ab", "cd", "ab", "cd", "ab", "cd");
        check.due("5 no row goes over two samples", x.train(0, 1, 4, 80), 0);
        x.forget();
        samples(x, "abcd", "abcd", "abcd");
        check.due("5 all samples count", x.train(0, 1, 4, 80), 1);
        x.forget();
        samples(x, "aaaaaa", "aaaaaa", "aaaa");
        check.due("5 each sample is counted from its left on", x.train(0, 1, 4, 80), 1);
    }

    private void due5(String text, int n, int pieces) {
        TrainedSegments x = new TrainedSegments();
        samples(x, text);
        check.due("5 " + text + " by " + n, x.train(0, 1, n, 80), pieces);
    }

    private void trainFillsADictionary() {
        TrainedSegments x = new TrainedSegments();
        int rows = 0;
        for (int s = 0; s < 8; s++) {
            for (int i = 0; i < 10; i++, rows++) {
                // each row three times, so that each has a gain of 1
                int k = rows / 3 * 4;
                x.feed(4, (long) k << 24 | k + 1 << 16 | k + 2 << 8 | k + 3);
            }
            x.sample();
        }
        check.due("5 20 pieces of 4", x.train(0, 1, 4, 80), 20);
        for (int i = 0; i < 80; i++) {
            check.due("5 byte " + i, x.content(0, i), (byte) ((19 - i / 4) * 4 + i % 4));
        }
        check.due("5 the last piece", x.told(0, 29), 4);
        check.due("5 no piece 20", x.told(0, 30), OUTSIDE);
        check.due("5 19 pieces", x.train(0, 1, 4, 79), 19);
        check.due("5 the tape", x.about(0), 0);
    }

    private void trainRefuses() {
        TrainedSegments x = new TrainedSegments();
        check.due("5 UNKNOWN first", x.train(6, 0, 1, 81), UNKNOWN);
        check.due("5 OUTSIDE next", x.train(0, 0, 4, 4), OUTSIDE);
        check.due("5 STATE last", x.train(0, 1, 4, 4), STATE);
        samples(x, "abcdabcdabcd");
        write(x, "keep");
        x.give(0, 7);
        check.due("5 number -1", x.train(-1, 1, 4, 80), UNKNOWN);
        int[][] wrong = {{0, 4, 80}, {256, 4, 80}, {-1, 4, 80}, {1, 1, 80}, {1, 9, 80}, {1, 4, -1}, {1, 4, 81}};
        for (int[] w : wrong) {
            check.due("5 id " + w[0] + " n " + w[1] + " bound " + w[2], x.train(0, w[0], w[1], w[2]), OUTSIDE);
        }
        dictionary("5 a refusal changes nothing", x, 0, "keep");
        check.due("5 nor the ID", x.told(0, 0), 7);
        check.due("5 in place of what was", x.train(0, 2, 2, 80), 0);
        dictionary("5 what was is gone", x, 0, "");
    }

    private void give() {
        TrainedSegments x = new TrainedSegments();
        fill(x, 81);
        check.due("6 UNKNOWN first", x.give(6, 0), UNKNOWN);
        check.due("6 number -1", x.give(-1, 1), UNKNOWN);
        check.due("6 81 bytes", x.give(0, 1), OUTSIDE);
        check.due("6 the tape stays", x.about(0), 81);
        x.pack(-1);
        fill(x, 80);
        check.due("6 id 0", x.give(0, 0), OUTSIDE);
        check.due("6 id 256", x.give(0, 256), OUTSIDE);
        check.due("6 not there", x.told(0, 0), UNKNOWN);
        check.due("6 80 bytes", x.give(0, 255), 80);
        check.due("6 the tape is empty", x.about(0), 0);
        check.due("6 one piece", x.told(0, 1), 1);
        check.due("6 of 80", x.told(0, 10), 80);
        check.due("6 nothing given", x.give(0, 1), 0);
        check.due("6 no piece", x.told(0, 1), 0);
        write(x, "abc");
        check.due("6 the last one", x.give(5, 1), 3);
        check.due("6 two are there", x.about(2), 2);
    }

    private void trim() {
        TrainedSegments x = new TrainedSegments();
        check.due("7 not there", x.trim(0), UNKNOWN);
        write(x, "xyz");
        x.give(0, 1);
        check.due("7 no samples", x.trim(0), STATE);
        check.due("7 number 6", x.trim(6), UNKNOWN);
        check.due("7 number -1", x.trim(-1), UNKNOWN);
        samples(x, "abcdef");
        check.due("7 no help, no harm: it goes", x.trim(0), 1);
        check.due("7 no pieces", x.told(0, 1), 0);
        check.due("7 no bytes", x.told(0, 2), 0);
        check.due("7 SUM of none", x.told(0, 3), 1);
        check.due("7 still there", x.told(0, 0), 1);
        check.due("7 none to go", x.trim(0), 0);
        write(x, "abc");
        x.give(0, 1);
        check.due("7 it helps by one byte", x.trim(0), 0);
        dictionary("7 it stays", x, 0, "abc");
        x.forget();
        samples(x, "abcdabcdabcd", "wxyzwxyzwxyzwxyz");
        x.train(0, 1, 4, 80);
        x.forget();
        samples(x, "wxyz");
        check.due("7 the first piece goes", x.trim(0), 1);
        dictionary("7 the second stays", x, 0, "wxyz");
        check.due("7 its length", x.told(0, 10), 4);
        check.due("7 one piece", x.told(0, 11), OUTSIDE);
        x.forget();
        samples(x, "ab");
        check.due("7 the only piece goes", x.trim(0), 1);
        x.forget();
        trimWithWhatIsLeft(x);
    }

    /** Each of the pieces alone can stand for both here, so only the first one may go. */
    private void trimWithWhatIsLeft(TrainedSegments x) {
        samples(x, "12abc12abc12abc", "3abc43abc43abc43abc4");
        check.due("7 taken", x.train(0, 1, 5, 80), 2);
        dictionary("7 both hold abc", x, 0, "12abc3abc4");
        x.forget();
        samples(x, "abc");
        check.due("7 one goes, the other is wanted then", x.trim(0), 1);
        dictionary("7 left", x, 0, "3abc4");
        x.forget();
        samples(x, "wxyzwxyzwxyzwxyzwxyzwxyz", "efghefghefghefghefgh", "mnopmnopmnopmnop", "abcdabcdabcd");
        check.due("7 four taken", x.train(0, 1, 4, 80), 4);
        dictionary("7 four", x, 0, "abcdmnopefghwxyz");
        x.forget();
        samples(x, "abcdefgh", "abcdefgh", "wxyz");
        // 22 bytes with all, 18 without mnop; without wxyz 21, which is more than 18
        check.due("7 fewer bytes are the measure from then on", x.trim(0), 1);
        dictionary("7 three", x, 0, "abcdefghwxyz");
    }

    private void drop() {
        TrainedSegments x = new TrainedSegments();
        samples(x, "abcdabcdabcd", "wxyzwxyzwxyzwxyz");
        x.train(2, 1, 4, 80);
        check.due("8 not there", x.drop(0), UNKNOWN);
        check.due("8 number 6", x.drop(6), UNKNOWN);
        check.due("8 number -1", x.drop(-1), UNKNOWN);
        check.due("8 two pieces", x.drop(2), 2);
        check.due("8 again", x.drop(2), UNKNOWN);
        check.due("8 none there", x.about(2), 0);
        check.due("8 told", x.told(2, 0), UNKNOWN);
        check.due("8 pack", x.pack(2), UNKNOWN);
        x.give(2, 1);
        check.due("8 no pieces", x.drop(2), 0);
    }

    private void told() {
        TrainedSegments x = new TrainedSegments();
        samples(x, "abcdabcdabcd", "wxyzwxyzwxyzwxyz");
        x.train(2, 33, 4, 80);
        int[][] due = {{0, 33}, {1, 2}, {2, 8}, {10, 4}, {11, 4}, {12, OUTSIDE}, {4, OUTSIDE}, {9, OUTSIDE},
            {-1, OUTSIDE}, {Integer.MAX_VALUE, OUTSIDE}, {Integer.MIN_VALUE, OUTSIDE}};
        for (int[] d : due) {
            check.due("9 told(2, " + d[0] + ")", x.told(2, d[0]), d[1]);
        }
        check.due("9 UNKNOWN first", x.told(6, -1), UNKNOWN);
        check.due("9 number -1", x.told(-1, 0), UNKNOWN);
        check.due("9 not there", x.told(1, 99), UNKNOWN);
        x.feed(3, 0xFF01FA);
        x.give(0, 1);
        // a: 1, 5, 6, 5; b: 0, 5, 11, 16
        check.due("9 SUM", x.told(0, 3), 256 * 16 + 5);
        x.give(0, 1);
        check.due("9 SUM of nothing", x.told(0, 3), 1);
    }

    private void content() {
        TrainedSegments x = new TrainedSegments();
        x.feed(3, 0x7F80FF);
        x.give(5, 1);
        check.due("10 127", x.content(5, 0), 127);
        check.due("10 -128", x.content(5, 1), -128);
        check.due("10 -1", x.content(5, 2), -1);
        check.due("10 no byte 3", Check.told(() -> x.content(5, 3)), INDEX);
        check.due("10 no byte -1", Check.told(() -> x.content(5, -1)), INDEX);
        check.due("10 not there", Check.told(() -> x.content(4, -1)), "throws.NullPointerException");
        check.due("10 number 6", Check.told(() -> x.content(6, 0)), INDEX);
        check.due("10 number -1", Check.told(() -> x.content(-1, 0)), INDEX);
        x.give(5, 1);
        check.due("10 bytes that were are gone", Check.told(() -> x.content(5, 0)), INDEX);
    }

    private void pack() {
        TrainedSegments x = new TrainedSegments();
        packed("11 nothing", x, "", -1, 0, 0, 0, 0);
        packed("11 as they are", x, "ab", -1, 0, 0, 0, 2, 1, 'a', 'b');
        packed("11 a match", x, "abcabcabc", -1, 0, 0, 0, 9, 2, 'a', 'b', 'c', 128, 2);
        packed("11 a match into itself", x, "aaaa", -1, 0, 0, 0, 4, 0, 'a', 32, 0);
        write(x, "abc");
        x.give(1, 200);
        // a: 98, 196, 44; b: 98, 43, 87
        packed("11 by a dictionary", x, "abcabc", 1, 200, 87, 44, 6, 128, 2);
        x.give(1, 9);
        packed("11 by one without pieces", x, "ab", 1, 9, 0, 1, 2, 1, 'a', 'b');
        write(x, "abc");
        check.due("11 not there", x.pack(0), UNKNOWN);
        check.due("11 number 6", x.pack(6), UNKNOWN);
        check.due("11 number -2", x.pack(-2), UNKNOWN);
        check.due("11 the tape stays", x.about(0), 3);
        check.due("11 OUT stays", x.about(3), 7);
        x.pack(-1);
        check.due("11 the tape is empty", x.about(0), 0);
    }

    private void packPrefers() {
        TrainedSegments x = new TrainedSegments();
        // 8 bytes as they are cost 9, and so do 4, a match of 3 and 1 more
        packed("11 of bytes as they are the most", x, "abcdabce", -1,
                0, 0, 0, 8, 7, 'a', 'b', 'c', 'd', 'a', 'b', 'c', 'e');
        write(x, "Xababcdefghi");
        x.give(0, 1);
        int[] head = {1, x.told(0, 3) / 256, x.told(0, 3) % 256, 10};
        packed("11 a match ahead of bytes as they are", x, "Xabcdefghi", 0,
                head[0], head[1], head[2], head[3], 32, 11, 5 * 32, 9);
        write(x, "abcd#defg");
        x.give(0, 1);
        packed("11 the longest match", x, "abcdefg", 0,
                1, x.told(0, 3) / 256, x.told(0, 3) % 256, 7, 2 * 32, 8, 32, 6);
        write(x, "abc-abc-");
        x.give(0, 1);
        packed("11 the least D", x, "abc", 0, 1, x.told(0, 3) / 256, x.told(0, 3) % 256, 3, 32, 3);
    }

    private void packFarAndLong() {
        TrainedSegments x = new TrainedSegments();
        fill(x, 33);
        check.due("11 33 other bytes", x.pack(-1), 4 + 33 + 2);
        check.due("11 32 first", x.out(4), 31);
        check.due("11 then 1", x.out(37), 0);
        fill(x, 200);
        check.due("11 200 other bytes", x.pack(-1), 211);
        check.due("11 items", x.about(5), 7);
        check.due("11 8 at last", x.out(4 + 6 * 33), 7);
        fill(x, 80);
        x.give(0, 1);
        for (int i = 0; i < 191; i++) {
            x.feed(1, 255 - i / 2 - i % 2 * 60);
        }
        x.feed(8, 0x0001020304050607L);
        x.feed(1, 8);
        check.due("11 a full tape", x.about(0), 200);
        int bytes = x.pack(0);
        check.due("11 c for a D above 256", x.out(bytes - 2), 7 * 32 + 1);
        check.due("11 e for D 271", x.out(bytes - 1), 14);
    }

    private void out() {
        TrainedSegments x = new TrainedSegments();
        x.feed(2, 0xFF80);
        x.pack(-1);
        check.due("12 255", x.out(5), 255);
        check.due("12 128", x.out(6), 128);
        check.due("12 behind", Check.told(() -> x.out(7)), INDEX);
        check.due("12 -1", Check.told(() -> x.out(-1)), INDEX);
        check.due("12 far", Check.told(() -> x.out(Integer.MAX_VALUE)), INDEX);
        x.pack(-1);
        check.due("12 OUT is another one", Check.told(() -> x.out(4)), INDEX);
    }

    private void openHeader() {
        TrainedSegments x = new TrainedSegments();
        write(x, "abc");
        x.give(4, 7);
        x.give(5, 7);
        opened("13 nothing", x, -200);
        opened("13 no such ID", x, -200, 8, 0, 0, 0);
        opened("13 no such ID, alone", x, -200, 8);
        opened("13 ID alone", x, -201, 7);
        opened("13 half a SUM is not looked at", x, -202, 7, 1);
        opened("13 no count", x, -203, 7, 87, 44);
        opened("13 SUM, first byte", x, -201, 7, 86, 44);
        opened("13 SUM, second byte", x, -201, 7, 87, 45, 0);
        opened("13 SUM of the second that has the ID", x, -201, 7, 0, 1, 0);
        opened("13 SUM by none", x, -201, 0, 0, 1, 0);
        opened("13 201 bytes", x, -203, 0, 0, 0, 201);
        opened("13 200 bytes", x, -204, 0, 0, 0, 200);
        opened("13 an empty text", x, 0, 7, 87, 44, 0);
        x.drop(4);
        opened("13 now the other one has it", x, 0, 7, 0, 1, 0);
        x.drop(5);
        opened("13 now none has it", x, -200, 7, 0, 1, 0);
    }

    private void openItems() {
        TrainedSegments x = new TrainedSegments();
        write(x, "abc");
        x.give(4, 7);
        opened("13 as they are", x, 2, 0, 0, 0, 2, 1, 'h', 'i');
        check.due("13 the tape is empty", x.about(0), 0);
        opened("13 in two", x, 2, 0, 0, 0, 2, 0, 'h', 0, 'o');
        opened("13 one byte too many", x, -207, 0, 0, 0, 2, 1, 'h', 'i', 0);
        opened("13 the tape's end in bytes", x, -206, 0, 0, 0, 2, 1, 'h');
        opened("13 the tape's end behind an item", x, -206, 0, 0, 0, 2, 0, 'h');
        opened("13 more than to come", x, -204, 0, 0, 0, 2, 2, 'h', 'i', 'j');
        opened("13 more than to come, later", x, -206, 0, 0, 0, 3, 0, 'h', 32, 0);
        opened("13 D is too much", x, -207, 0, 0, 0, 4, 0, 'h', 32, 1);
        opened("13 D by its higher bits", x, -207, 0, 0, 0, 4, 0, 'h', 33, 0);
        opened("13 no e", x, -207, 0, 0, 0, 4, 0, 'h', 63);
        check.due("13 TEXT stays", x.about(4), 2);
        check.due("13 its second byte", x.text(1), 'o');
        opened("13 a match into itself", x, 10, 0, 0, 0, 10, 0, 'h', 224, 0);
        check.due("13 its last byte", x.text(9), 'h');
        opened("13 by a dictionary", x, 4, 7, 87, 44, 4, 64, 2);
        check.due("13 its last byte", x.text(3), 'a');
        opened("13 D is too much by one", x, -205, 7, 87, 44, 4, 64, 3);
        x.feed(4, 200);
        for (int i = 0; i < 98; i++) {
            x.feed(2, 'a');
        }
        check.due("13 a full tape is too short for 200 bytes one by one", x.open(), -400);
    }

    private void text() {
        TrainedSegments x = new TrainedSegments();
        x.feed(7, 0x00000002_01FF80L);
        check.due("14 open", x.open(), 2);
        check.due("14 255", x.text(0), 255);
        check.due("14 128", x.text(1), 128);
        check.due("14 behind", Check.told(() -> x.text(2)), INDEX);
        check.due("14 -1", Check.told(() -> x.text(-1)), INDEX);
        x.feed(4, 0);
        x.open();
        check.due("14 TEXT is another one", Check.told(() -> x.text(0)), INDEX);
    }

    private void size() {
        TrainedSegments x = new TrainedSegments();
        samples(x, "abcabc", "q");
        write(x, "abc");
        x.give(3, 1);
        write(x, "tape");
        check.due("15 by none", x.size(0, -1), 4 + 4 + 2);
        check.due("15 by a dictionary", x.size(0, 3), 4 + 2);
        check.due("15 no help", x.size(1, 3), 6);
        check.due("15 sample 2", x.size(2, 3), UNKNOWN);
        check.due("15 sample -1", x.size(-1, 3), UNKNOWN);
        check.due("15 not there", x.size(0, 2), UNKNOWN);
        check.due("15 number 6", x.size(0, 6), UNKNOWN);
        check.due("15 number -2", x.size(0, -2), UNKNOWN);
        check.due("15 the tape stays", x.about(0), 4);
        check.due("15 OUT stays", x.about(3), 0);
    }

    private void best() {
        TrainedSegments x = new TrainedSegments();
        check.due("16 no samples", x.best(0), UNKNOWN);
        samples(x, "abcabc", "q", "wxyz");
        check.due("16 no dictionaries", x.best(0), -1);
        write(x, "ab");
        x.give(0, 1);
        check.due("16 as few by none", x.best(0), -1);
        write(x, "abc");
        x.give(4, 1);
        check.due("16 fewer", x.best(0), 4);
        write(x, "abcd");
        x.give(2, 2);
        check.due("16 dictionary 2 needs one more item", x.best(0), 4);
        write(x, "abcabc");
        x.give(3, 2);
        check.due("16 of several the first", x.best(0), 3);
        check.due("16 by none", x.best(1), -1);
        write(x, "wxyz");
        x.give(5, 2);
        check.due("16 the last one", x.best(2), 5);
        check.due("16 sample 3", x.best(3), UNKNOWN);
        check.due("16 sample -1", x.best(-1), UNKNOWN);
    }

    private void share() {
        TrainedSegments x = new TrainedSegments();
        check.due("17 not there, no samples", x.share(0), UNKNOWN);
        write(x, "abc");
        x.give(0, 1);
        check.due("17 no samples", Check.told(() -> x.share(0)), "throws.ArithmeticException");
        samples(x, "abcabc");
        check.due("17 4 of 10", x.share(0), 400);
        samples(x, "q");
        check.due("17 4 of 16", x.share(0), 250);
        samples(x, "rs");
        check.due("17 4 of 23, cut", x.share(0), 173);
        check.due("17 not there", x.share(1), UNKNOWN);
        check.due("17 number 6", x.share(6), UNKNOWN);
        check.due("17 number -1", x.share(-1), UNKNOWN);
        x.give(0, 1);
        check.due("17 saves nothing", x.share(0), 0);
    }

    private void about() {
        TrainedSegments x = new TrainedSegments();
        samples(x, "abcabc", "q");
        write(x, "abc");
        x.give(0, 1);
        x.give(3, 1);
        x.give(5, 1);
        write(x, "zabcabc");
        x.pack(0);
        x.feed(7, 0x00000002_01FF80L);
        x.open();
        x.size(0, -1);
        x.share(0);
        write(x, "tape");
        int[] due = {4, 2, 3, 10, 2, 3, 2, OUTSIDE};
        for (int what = 0; what < due.length; what++) {
            check.due("18 about(" + what + ")", x.about(what), due[what]);
        }
        check.due("18 about(-1)", x.about(-1), OUTSIDE);
        x.pack(5);
        x.pack(5);
        check.due("18 no items", x.about(5), 0);
        check.due("18 no matches", x.about(6), 0);
    }
}
