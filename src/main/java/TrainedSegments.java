import java.util.Arrays;

/** Dictionaries trained from samples, and texts packed by them and opened again. */
public final class TrainedSegments {
    public static final int NONE = -1, UNKNOWN = -101, OUTSIDE = -102, FULL = -103, STATE = -104;

    private static final int TAPE_BYTES = 200;
    private static final int SAMPLE_BYTES = 40;
    private static final int SAMPLE_LIMIT = 8;
    private static final int DICTIONARY_BYTES = 80;
    private static final int DICTIONARY_LIMIT = 6;
    // A row of 2 bytes never gains, so each trained piece has 3 bytes or more.
    private static final int PIECE_LIMIT = DICTIONARY_BYTES / 3;
    private static final int FIRST_PIECE = 10;
    private static final int HEADER_BYTES = 4;
    private static final int PLAIN_LIMIT = 32;
    private static final int MATCH_LEAST = 3;
    private static final int MATCH_MOST = 9;
    // At worst every byte stays as it is, with one byte ahead of each 32.
    private static final int PACKED_BYTES =
            HEADER_BYTES + TAPE_BYTES + (TAPE_BYTES + PLAIN_LIMIT - 1) / PLAIN_LIMIT;
    private static final int WRONG_BASE = -200;

    private final Row tape = new Row(TAPE_BYTES);
    private final Row[] samples = new Row[SAMPLE_LIMIT];
    private final Dictionary[] dictionaries = new Dictionary[DICTIONARY_LIMIT];
    private final Dictionary none = new Dictionary();
    private final Row trial = new Row(DICTIONARY_BYTES);
    private final Row opened = new Row(TAPE_BYTES);
    private final Output output = new Output();
    private final Packer packer = new Packer();
    private final Trainer trainer = new Trainer();
    private final Opener opener = new Opener();
    private int sampleCount;

    public TrainedSegments() {
        for (int i = 0; i < SAMPLE_LIMIT; i++) {
            samples[i] = new Row(SAMPLE_BYTES);
        }
        for (int i = 0; i < DICTIONARY_LIMIT; i++) {
            dictionaries[i] = new Dictionary();
        }
    }

    public int feed(int n, long w) {
        if (n < 1 || n > 8) {
            return OUTSIDE;
        }
        if (!tape.hasRoom(n)) {
            return FULL;
        }
        for (int i = n - 1; i >= 0; i--) {
            tape.add((int) (w >>> (8 * i)));
        }
        return tape.length();
    }

    public int sample() {
        if (tape.length() < 1 || tape.length() > SAMPLE_BYTES) {
            return OUTSIDE;
        }
        if (sampleCount >= SAMPLE_LIMIT) {
            return FULL;
        }
        int number = sampleCount;
        samples[number].become(tape);
        tape.clear();
        sampleCount++;
        return number;
    }

    public int forget() {
        int had = sampleCount;
        sampleCount = 0;
        return had;
    }

    public int train(int dictionary, int id, int n, int bound) {
        if (!isNumber(dictionary)) {
            return UNKNOWN;
        }
        if (!isId(id) || n < 2 || n > 8 || bound < 0 || bound > DICTIONARY_BYTES) {
            return OUTSIDE;
        }
        if (sampleCount == 0) {
            return STATE;
        }
        trainer.load(samples, sampleCount, n);
        trainer.takeRows(bound);
        Dictionary trained = dictionaries[dictionary];
        trained.begin(id, n);
        trainer.handOver(trained);
        return trained.pieces();
    }

    public int give(int dictionary, int id) {
        if (!isNumber(dictionary)) {
            return UNKNOWN;
        }
        if (!isId(id) || tape.length() > DICTIONARY_BYTES) {
            return OUTSIDE;
        }
        Dictionary given = dictionaries[dictionary];
        given.begin(id, tape.length());
        given.addPiece(tape, 0);
        tape.clear();
        return given.words().length();
    }

    public int trim(int dictionary) {
        Dictionary trimmed = thereAt(dictionary);
        if (trimmed == null) {
            return UNKNOWN;
        }
        if (sampleCount == 0) {
            return STATE;
        }
        return leaveOutIdlePieces(trimmed);
    }

    public int drop(int dictionary) {
        Dictionary dropped = thereAt(dictionary);
        if (dropped == null) {
            return UNKNOWN;
        }
        int had = dropped.pieces();
        dropped.begin(0, 0);
        return had;
    }

    public int told(int dictionary, int what) {
        Dictionary asked = thereAt(dictionary);
        if (asked == null) {
            return UNKNOWN;
        }
        switch (what) {
            case 0:
                return asked.id();
            case 1:
                return asked.pieces();
            case 2:
                return asked.words().length();
            case 3:
                return asked.sum();
            default:
                return what >= FIRST_PIECE && what - FIRST_PIECE < asked.pieces()
                        ? asked.pieceLength() : OUTSIDE;
        }
    }

    public byte content(int dictionary, int i) throws NullPointerException, ArrayIndexOutOfBoundsException {
        if (!isNumber(dictionary)) {
            throw new ArrayIndexOutOfBoundsException("no such dictionary");
        }
        Dictionary asked = thereAt(dictionary);
        if (asked == null) {
            throw new NullPointerException("the dictionary is not there");
        }
        if (!asked.words().has(i)) {
            throw new ArrayIndexOutOfBoundsException("no such byte of the dictionary");
        }
        return asked.words().signedAt(i);
    }

    public int pack(int dictionary) {
        Dictionary by = noneOrThereAt(dictionary);
        if (by == null) {
            return UNKNOWN;
        }
        packer.measure(tape, by.words());
        output.begin(by, tape.length());
        packer.write(output);
        tape.clear();
        return output.bytes().length();
    }

    public int out(int i) throws ArrayIndexOutOfBoundsException {
        if (!output.bytes().has(i)) {
            throw new ArrayIndexOutOfBoundsException("no such byte of OUT");
        }
        return output.bytes().at(i);
    }

    public int open() {
        // An empty tape reads as ID 0 here; the opener itself finds it too short.
        int wrong = opener.decode(tape, firstWithId(tape.at(0)));
        tape.clear();
        if (wrong != NONE) {
            return WRONG_BASE - wrong;
        }
        opener.handOver(opened);
        return opened.length();
    }

    public int text(int i) throws ArrayIndexOutOfBoundsException {
        if (!opened.has(i)) {
            throw new ArrayIndexOutOfBoundsException("no such byte of TEXT");
        }
        return opened.at(i);
    }

    public int size(int sample, int dictionary) {
        Dictionary by = noneOrThereAt(dictionary);
        if (!isSample(sample) || by == null) {
            return UNKNOWN;
        }
        return packer.measure(samples[sample], by.words());
    }

    public int best(int sample) {
        if (!isSample(sample)) {
            return UNKNOWN;
        }
        int found = NONE;
        int fewest = packer.measure(samples[sample], none.words());
        for (int i = 0; i < DICTIONARY_LIMIT; i++) {
            if (dictionaries[i].isThere()) {
                int bytes = packer.measure(samples[sample], dictionaries[i].words());
                if (bytes < fewest) {
                    fewest = bytes;
                    found = i;
                }
            }
        }
        return found;
    }

    public int share(int dictionary) throws ArithmeticException {
        Dictionary asked = thereAt(dictionary);
        if (asked == null) {
            return UNKNOWN;
        }
        int byNone = bytesOfSamples(none.words());
        if (byNone == 0) {
            throw new ArithmeticException("there are no samples");
        }
        return (byNone - bytesOfSamples(asked.words())) * 1000 / byNone;
    }

    public int about(int what) {
        switch (what) {
            case 0:
                return tape.length();
            case 1:
                return sampleCount;
            case 2:
                return countThere();
            case 3:
                return output.bytes().length();
            case 4:
                return opened.length();
            case 5:
                return output.items();
            case 6:
                return output.matches();
            default:
                return OUTSIDE;
        }
    }

    private static boolean isNumber(int dictionary) {
        return dictionary >= 0 && dictionary < DICTIONARY_LIMIT;
    }

    private static boolean isId(int id) {
        return id >= 1 && id <= 255;
    }

    private boolean isSample(int number) {
        return number >= 0 && number < sampleCount;
    }

    /** The dictionary of a number, or null if there is none. */
    private Dictionary thereAt(int number) {
        return isNumber(number) && dictionaries[number].isThere() ? dictionaries[number] : null;
    }

    private Dictionary noneOrThereAt(int number) {
        return number == NONE ? none : thereAt(number);
    }

    private Dictionary firstWithId(int id) {
        if (id == 0) {
            return none;
        }
        for (int i = 0; i < DICTIONARY_LIMIT; i++) {
            if (dictionaries[i].id() == id) {
                return dictionaries[i];
            }
        }
        return null;
    }

    private int countThere() {
        int count = 0;
        for (int i = 0; i < DICTIONARY_LIMIT; i++) {
            if (dictionaries[i].isThere()) {
                count++;
            }
        }
        return count;
    }

    private int bytesOfSamples(Row words) {
        int bytes = 0;
        for (int i = 0; i < sampleCount; i++) {
            bytes += packer.measure(samples[i], words);
        }
        return bytes;
    }

    private int leaveOutIdlePieces(Dictionary trimmed) {
        int had = trimmed.pieces();
        int bytes = bytesOfSamples(trimmed.words());
        int piece = 0;
        for (int i = 0; i < had; i++) {
            trimmed.copyWithout(piece, trial);
            int bytesWithout = bytesOfSamples(trial);
            if (bytesWithout <= bytes) {
                trimmed.removePiece(piece);
                bytes = bytesWithout;
            } else {
                piece++;
            }
        }
        return had - trimmed.pieces();
    }

    /** Bytes one behind the other, up to a limit; what does not fit or is not there is left alone. */
    private static final class Row {
        private final byte[] bytes;
        private int length;

        Row(int limit) {
            bytes = new byte[Math.max(limit, 0)];
        }

        int length() {
            return length;
        }

        boolean has(int i) {
            return i >= 0 && i < length;
        }

        boolean hasRoom(int n) {
            return n <= bytes.length - length;
        }

        byte signedAt(int i) {
            return has(i) ? bytes[i] : 0;
        }

        int at(int i) {
            return signedAt(i) & 255;
        }

        void clear() {
            length = 0;
        }

        void add(int value) {
            if (length < bytes.length) {
                bytes[length] = (byte) value;
                length++;
            }
        }

        void addFrom(Row other, int from, int n) {
            for (int i = 0; i < n; i++) {
                add(other.signedAt(from + i));
            }
        }

        void become(Row other) {
            clear();
            addFrom(other, 0, other.length);
        }

        void cutOut(int from, int n) {
            if (from < 0 || n < 0 || from + n > length) {
                return;
            }
            int all = length;
            length = from;
            for (int i = from + n; i < all; i++) {
                add(bytes[i]);
            }
        }

        /** Writes all bytes to a place of the target and answers the place behind them. */
        int copyTo(byte[] target, int place) {
            int n = Math.max(Math.min(length, target.length - place), 0);
            for (int i = 0; i < n; i++) {
                target[place + i] = bytes[i];
            }
            return place + n;
        }

        int sum() {
            int a = 1;
            int b = 0;
            for (int i = 0; i < length; i++) {
                a = (a + at(i)) % 251;
                b = (b + a) % 251;
            }
            return 256 * b + a;
        }
    }

    /**
     * An ID and pieces; with ID 0 it is not there, or stands for packing by none. Its pieces are equally long, as
     * training takes rows of one length and giving makes a single piece.
     */
    private static final class Dictionary {
        private final Row words = new Row(DICTIONARY_BYTES);
        private int pieceLength;
        private int pieces;
        private int id;

        Dictionary() {
        }

        Row words() {
            return words;
        }

        int id() {
            return id;
        }

        boolean isThere() {
            return id != 0;
        }

        int pieces() {
            return pieces;
        }

        int pieceLength() {
            return pieceLength;
        }

        int sum() {
            return id == 0 ? 0 : words.sum();
        }

        void begin(int newId, int newPieceLength) {
            id = newId;
            pieceLength = newPieceLength;
            pieces = 0;
            words.clear();
        }

        void addPiece(Row source, int from) {
            if (pieceLength > 0 && words.hasRoom(pieceLength)) {
                words.addFrom(source, from, pieceLength);
                pieces++;
            }
        }

        void copyWithout(int piece, Row target) {
            target.become(words);
            target.cutOut(piece * pieceLength, pieceLength);
        }

        void removePiece(int piece) {
            if (piece >= 0 && piece < pieces) {
                words.cutOut(piece * pieceLength, pieceLength);
                pieces--;
            }
        }
    }

    /** Takes the rows that gain most. All samples lie in one line of places, 40 for each. */
    private static final class Trainer {
        private static final int PLACES = SAMPLE_LIMIT * SAMPLE_BYTES;
        private static final int NO_ROW = -1;

        private final Row places = new Row(PLACES);
        private final boolean[] covered = new boolean[PLACES];
        // The first place with the same row: rows are then compared by one number.
        private final int[] kind = new int[PLACES];
        private final int[] count = new int[PLACES];
        private final int[] freeFrom = new int[PLACES];
        private final int[] taken = new int[PIECE_LIMIT];
        private int takenCount;
        private int n;

        Trainer() {
        }

        void load(Row[] samples, int sampleCount, int rowLength) {
            n = rowLength;
            takenCount = 0;
            places.clear();
            coverFrom(0, PLACES, false);
            Arrays.fill(kind, NO_ROW);
            for (int i = 0; i < sampleCount && i < samples.length; i++) {
                places.addFrom(samples[i], 0, SAMPLE_BYTES);
                markKinds(i * SAMPLE_BYTES, samples[i].length() - n);
            }
        }

        void takeRows(int bound) {
            while (takenCount < PIECE_LIMIT && (takenCount + 1) * n <= bound) {
                countRows();
                int best = placeOfMost();
                if (best == NO_ROW || (n - 2) * count[kind[best]] - (n + 1) <= 0) {
                    return;
                }
                taken[takenCount] = best;
                takenCount++;
                cover(kind[best]);
            }
        }

        void handOver(Dictionary target) {
            for (int i = takenCount - 1; i >= 0; i--) {
                target.addPiece(places, taken[i]);
            }
        }

        private void markKinds(int sampleStart, int lastRow) {
            for (int i = 0; i <= lastRow; i++) {
                kind[sampleStart + i] = firstSameRow(sampleStart + i);
            }
        }

        private int firstSameRow(int place) {
            for (int i = 0; i < place; i++) {
                if (kind[i] == i && isSameRow(i, place)) {
                    return i;
                }
            }
            return place;
        }

        private boolean isSameRow(int one, int other) {
            for (int i = 0; i < n; i++) {
                if (places.signedAt(one + i) != places.signedAt(other + i)) {
                    return false;
                }
            }
            return true;
        }

        private boolean isFreeRow(int place) {
            if (kind[place] == NO_ROW) {
                return false;
            }
            for (int i = place; i < place + n && i < PLACES; i++) {
                if (covered[i]) {
                    return false;
                }
            }
            return true;
        }

        private void countRows() {
            Arrays.fill(count, 0);
            Arrays.fill(freeFrom, 0);
            for (int i = 0; i < PLACES; i++) {
                if (isFreeRow(i) && i >= freeFrom[kind[i]]) {
                    count[kind[i]]++;
                    freeFrom[kind[i]] = i + n;
                }
            }
        }

        /** For one n the greatest gain is the greatest count. */
        private int placeOfMost() {
            int best = NO_ROW;
            int most = 0;
            for (int i = 0; i < PLACES; i++) {
                if (kind[i] != NO_ROW && count[kind[i]] > most && isFreeRow(i)) {
                    best = i;
                    most = count[kind[i]];
                }
            }
            return best;
        }

        /** A row that overlaps the one covered just before is no longer free, as in the counting. */
        private void cover(int takenKind) {
            for (int i = 0; i < PLACES; i++) {
                if (kind[i] == takenKind && isFreeRow(i)) {
                    coverFrom(i, i + n, true);
                }
            }
        }

        private void coverFrom(int from, int behind, boolean isCovered) {
            for (int i = from; i < behind && i < PLACES; i++) {
                covered[i] = isCovered;
            }
        }
    }

    /** Finds the items of a packed text, from its end on, so that what follows an item is known. */
    private static final class Packer {
        private static final int NOWHERE = -1;

        private final byte[] joined = new byte[DICTIONARY_BYTES + TAPE_BYTES];
        // The nearest place ahead with the same byte: only there can a match begin.
        private final int[] earlier = new int[DICTIONARY_BYTES + TAPE_BYTES];
        private final int[] latest = new int[256];
        private final int[] cost = new int[TAPE_BYTES + 1];
        // Above 0: a match of so many bytes; below 0: so many bytes as they are.
        private final int[] choice = new int[TAPE_BYTES];
        private int start;
        private int length;

        Packer() {
        }

        /** How many bytes the text has, packed by the words. */
        int measure(Row text, Row words) {
            start = words.copyTo(joined, 0);
            length = Math.min(text.copyTo(joined, start) - start, TAPE_BYTES);
            linkSameBytes();
            cost[length] = 0;
            for (int at = length - 1; at >= 0; at--) {
                cost[at] = Integer.MAX_VALUE;
                tryMatches(at);
                tryPlain(at);
            }
            return HEADER_BYTES + cost[0];
        }

        /** Writes the items of what was measured last. */
        void write(Output target) {
            int at = 0;
            for (int i = 0; i < TAPE_BYTES && at < length; i++) {
                int item = choice[at];
                if (item > 0) {
                    target.addMatch(item, leastDistance(start + at, item));
                } else {
                    target.addPlain(joined, start + at, -item);
                }
                at += Math.abs(item);
            }
        }

        private void linkSameBytes() {
            Arrays.fill(latest, NOWHERE);
            for (int i = 0; i < start + length; i++) {
                int value = joined[i] & 255;
                earlier[i] = latest[value];
                latest[value] = i;
            }
        }

        /** Of equal ways the one tried first stays: so the longest is tried first, and matches ahead of plain bytes. */
        private void tryMatches(int at) {
            for (int n = longestMatch(at); n >= MATCH_LEAST; n--) {
                if (2 + cost[at + n] < cost[at]) {
                    cost[at] = 2 + cost[at + n];
                    choice[at] = n;
                }
            }
        }

        private void tryPlain(int at) {
            for (int n = Math.min(PLAIN_LIMIT, length - at); n >= 1; n--) {
                if (1 + n + cost[at + n] < cost[at]) {
                    cost[at] = 1 + n + cost[at + n];
                    choice[at] = -n;
                }
            }
        }

        private int longestMatch(int at) {
            int limit = Math.min(MATCH_MOST, length - at);
            int longest = 0;
            int from = earlier[start + at];
            for (int i = 0; i < joined.length && from != NOWHERE && longest < limit; i++) {
                longest = Math.max(longest, sameBytes(from, start + at, limit));
                from = earlier[from];
            }
            return longest;
        }

        private int leastDistance(int place, int n) {
            int from = earlier[place];
            for (int i = 0; i < joined.length && from != NOWHERE; i++) {
                if (sameBytes(from, place, n) == n) {
                    return place - from;
                }
                from = earlier[from];
            }
            return 0;
        }

        private int sameBytes(int from, int place, int limit) {
            int n = 0;
            while (n < limit && joined[from + n] == joined[place + n]) {
                n++;
            }
            return n;
        }
    }

    /** OUT: the bytes of the text packed last, and how many items they are. */
    private static final class Output {
        private final Row bytes = new Row(PACKED_BYTES);
        private int items;
        private int matches;

        Output() {
        }

        Row bytes() {
            return bytes;
        }

        int items() {
            return items;
        }

        int matches() {
            return matches;
        }

        void begin(Dictionary by, int textLength) {
            items = 0;
            matches = 0;
            bytes.clear();
            bytes.add(by.id());
            bytes.add(by.sum() >> 8);
            bytes.add(by.sum());
            bytes.add(textLength);
        }

        void addMatch(int n, int distance) {
            bytes.add((n - 2) * 32 + (distance - 1) / 256);
            bytes.add((distance - 1) % 256);
            items++;
            matches++;
        }

        void addPlain(byte[] source, int from, int n) {
            bytes.add(n - 1);
            for (int i = from; i < from + n && i < source.length; i++) {
                bytes.add(source[i]);
            }
            items++;
        }
    }

    /** Opens packed bytes strictly, beside TEXT, which must stay if they are wrong. */
    private static final class Opener {
        private final Row joined = new Row(DICTIONARY_BYTES + TAPE_BYTES);
        private int start;
        private int wanted;
        private int place;

        Opener() {
        }

        /** The wrong place, or NONE; by is null if no dictionary has the ID. */
        int decode(Row packed, Dictionary by) {
            if (packed.length() == 0 || by == null) {
                return 0;
            }
            int wrong = wrongInHeader(packed, by);
            if (wrong != NONE) {
                return wrong;
            }
            joined.become(by.words());
            start = joined.length();
            wanted = packed.at(HEADER_BYTES - 1);
            place = HEADER_BYTES;
            // Each item gives a byte at least.
            for (int i = 0; i < TAPE_BYTES && wanted > 0 && wrong == NONE; i++) {
                wrong = readItem(packed);
            }
            return wrong == NONE && place < packed.length() ? place : wrong;
        }

        void handOver(Row text) {
            text.clear();
            text.addFrom(joined, start, joined.length() - start);
        }

        private int wrongInHeader(Row packed, Dictionary by) {
            if (packed.length() < 3) {
                return packed.length();
            }
            if (256 * packed.at(1) + packed.at(2) != by.sum()) {
                return 1;
            }
            return packed.length() < HEADER_BYTES || packed.at(3) > TAPE_BYTES ? 3 : NONE;
        }

        private int readItem(Row packed) {
            if (place >= packed.length()) {
                return packed.length();
            }
            int c = packed.at(place);
            int n = c < PLAIN_LIMIT ? c + 1 : c / 32 + 2;
            if (n > wanted) {
                return place;
            }
            wanted -= n;
            return c < PLAIN_LIMIT ? readPlain(packed, n) : readMatch(packed, c, n);
        }

        private int readPlain(Row packed, int n) {
            if (place + n >= packed.length()) {
                return packed.length();
            }
            joined.addFrom(packed, place + 1, n);
            place += n + 1;
            return NONE;
        }

        private int readMatch(Row packed, int c, int n) {
            if (place + 1 >= packed.length()) {
                return packed.length();
            }
            int distance = 256 * (c % 32) + packed.at(place + 1) + 1;
            if (distance > joined.length()) {
                return place + 1;
            }
            // Bytes of this very match may be wanted, so they come one by one.
            for (int i = 0; i < n; i++) {
                joined.add(joined.at(joined.length() - distance));
            }
            place += 2;
            return NONE;
        }
    }
}
