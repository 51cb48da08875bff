import java.util.ArrayList;
import java.util.HashMap;
import java.util.HashSet;
import java.util.List;
import java.util.Map;
import java.util.Set;

/**
 * The document once more, written slowly and by other means (texts, lists, recursion), so that it and the class are
 * unlikely to share a fault. Bytes are the characters 0 to 255 of texts.
 */
final class NaiveModel {
    private static final class Words {
        int id;
        List<String> pieces = new ArrayList<>();

        String bytes() {
            return String.join("", pieces);
        }
    }

    private record Item(int length, int distance) {
        boolean isMatch() {
            return distance > 0;
        }

        int cost() {
            return isMatch() ? 2 : 1 + length;
        }
    }

    private String tape = "";
    private final List<String> samples = new ArrayList<>();
    private final Words[] words = new Words[6];
    private String packed = "";
    private String opened = "";
    private int items;
    private int matches;

    int feed(int n, long w) {
        if (n < 1 || n > 8) {
            return -102;
        }
        if (tape.length() + n > 200) {
            return -103;
        }
        StringBuilder bytes = new StringBuilder();
        for (int i = 0; i < n; i++) {
            bytes.insert(0, (char) (w & 255));
            w >>= 8;
        }
        tape += bytes;
        return tape.length();
    }

    int sample() {
        if (tape.isEmpty() || tape.length() > 40) {
            return -102;
        }
        if (samples.size() == 8) {
            return -103;
        }
        samples.add(takeTape());
        return samples.size() - 1;
    }

    int forget() {
        int had = samples.size();
        samples.clear();
        return had;
    }

    int train(int d, int id, int n, int bound) {
        if (d < 0 || d > 5) {
            return -101;
        }
        if (id < 1 || id > 255 || n < 2 || n > 8 || bound < 0 || bound > 80) {
            return -102;
        }
        if (samples.isEmpty()) {
            return -104;
        }
        Words made = new Words();
        made.id = id;
        Set<List<Integer>> covered = new HashSet<>();
        while (true) {
            String best = null;
            int bestGain = 0;
            for (int s = 0; s < samples.size(); s++) {
                for (int i = 0; i + n <= samples.get(s).length(); i++) {
                    if (isFree(covered, s, i, n)) {
                        String row = samples.get(s).substring(i, i + n);
                        int gain = (n - 2) * counted(row, covered).size() - (n + 1);
                        if (best == null || gain > bestGain) {
                            best = row;
                            bestGain = gain;
                        }
                    }
                }
            }
            if (best == null || bestGain <= 0 || made.bytes().length() + n > bound) {
                break;
            }
            for (List<Integer> place : counted(best, covered)) {
                for (int k = 0; k < n; k++) {
                    covered.add(List.of(place.get(0), place.get(1) + k));
                }
            }
            made.pieces.add(0, best);
        }
        words[d] = made;
        return made.pieces.size();
    }

    private static boolean isFree(Set<List<Integer>> covered, int s, int i, int n) {
        for (int k = 0; k < n; k++) {
            if (covered.contains(List.of(s, i + k))) {
                return false;
            }
        }
        return true;
    }

    private List<List<Integer>> counted(String row, Set<List<Integer>> covered) {
        List<List<Integer>> places = new ArrayList<>();
        for (int s = 0; s < samples.size(); s++) {
            int i = 0;
            while (i + row.length() <= samples.get(s).length()) {
                if (samples.get(s).startsWith(row, i) && isFree(covered, s, i, row.length())) {
                    places.add(List.of(s, i));
                    i += row.length();
                } else {
                    i++;
                }
            }
        }
        return places;
    }

    int give(int d, int id) {
        if (d < 0 || d > 5) {
            return -101;
        }
        if (id < 1 || id > 255 || tape.length() > 80) {
            return -102;
        }
        Words made = new Words();
        made.id = id;
        if (!tape.isEmpty()) {
            made.pieces.add(takeTape());
        }
        words[d] = made;
        return made.bytes().length();
    }

    int trim(int d) {
        if (!isThere(d)) {
            return -101;
        }
        if (samples.isEmpty()) {
            return -104;
        }
        int gone = 0;
        int i = 0;
        while (i < words[d].pieces.size()) {
            List<String> left = new ArrayList<>(words[d].pieces);
            left.remove(i);
            if (packedSamples(String.join("", left)) <= packedSamples(words[d].bytes())) {
                words[d].pieces = left;
                gone++;
            } else {
                i++;
            }
        }
        return gone;
    }

    int drop(int d) {
        if (!isThere(d)) {
            return -101;
        }
        int had = words[d].pieces.size();
        words[d] = null;
        return had;
    }

    int told(int d, int what) {
        if (!isThere(d)) {
            return -101;
        }
        Words w = words[d];
        if (what >= 10) {
            return what - 10 < w.pieces.size() ? w.pieces.get(what - 10).length() : -102;
        }
        return switch (what) {
            case 0 -> w.id;
            case 1 -> w.pieces.size();
            case 2 -> w.bytes().length();
            case 3 -> sum(w.bytes());
            default -> -102;
        };
    }

    byte content(int d, int i) {
        if (d < 0 || d > 5) {
            throw new ArrayIndexOutOfBoundsException();
        }
        if (words[d] == null) {
            throw new NullPointerException();
        }
        return (byte) byteOf(words[d].bytes(), i);
    }

    int pack(int d) {
        if (d != -1 && !isThere(d)) {
            return -101;
        }
        String ahead = d == -1 ? "" : words[d].bytes();
        int sum = d == -1 ? 0 : sum(ahead);
        String text = takeTape();
        StringBuilder bytes = new StringBuilder();
        bytes.append((char) (d == -1 ? 0 : words[d].id)).append((char) (sum / 256)).append((char) (sum % 256));
        bytes.append((char) text.length());
        items = 0;
        matches = 0;
        Map<Integer, List<Item>> known = new HashMap<>();
        int at = 0;
        while (at < text.length()) {
            Item item = bestWay(ahead, text, at, known).get(0);
            items++;
            if (item.isMatch()) {
                matches++;
                bytes.append((char) ((item.length - 2) * 32 + (item.distance - 1) / 256));
                bytes.append((char) ((item.distance - 1) % 256));
            } else {
                bytes.append((char) (item.length - 1)).append(text, at, at + item.length);
            }
            at += item.length;
        }
        packed = bytes.toString();
        return packed.length();
    }

    /** All items that can stand at a place, those that the document prefers first. */
    private static List<Item> candidates(String ahead, String text, int at) {
        List<Item> all = new ArrayList<>();
        String row = ahead + text;
        int place = ahead.length() + at;
        for (int n = 9; n >= 3; n--) {
            for (int d = 1; d <= place && at + n <= text.length(); d++) {
                if (row.regionMatches(place - d, row, place, n)) {
                    all.add(new Item(n, d));
                }
            }
        }
        for (int n = 32; n >= 1; n--) {
            if (at + n <= text.length()) {
                all.add(new Item(n, 0));
            }
        }
        return all;
    }

    private static List<Item> bestWay(String ahead, String text, int at, Map<Integer, List<Item>> known) {
        if (at == text.length()) {
            return List.of();
        }
        if (known.containsKey(at)) {
            return known.get(at);
        }
        List<Item> best = null;
        for (Item item : candidates(ahead, text, at)) {
            List<Item> way = new ArrayList<>(List.of(item));
            way.addAll(bestWay(ahead, text, at + item.length, known));
            if (best == null || cost(way) < cost(best)) {
                best = way;
            }
        }
        known.put(at, best);
        return best;
    }

    private static int cost(List<Item> way) {
        int cost = 0;
        for (Item item : way) {
            cost += item.cost();
        }
        return cost;
    }

    private static int packedBytes(String ahead, String text) {
        return 4 + cost(bestWay(ahead, text, 0, new HashMap<>()));
    }

    private int packedSamples(String ahead) {
        int bytes = 0;
        for (String s : samples) {
            bytes += packedBytes(ahead, s);
        }
        return bytes;
    }

    int out(int i) {
        return byteOf(packed, i);
    }

    int open() {
        String p = takeTape();
        if (p.isEmpty()) {
            return -200;
        }
        String ahead = "";
        int sum = 0;
        if (p.charAt(0) != 0) {
            int d = 0;
            while (d < 6 && (words[d] == null || words[d].id != p.charAt(0))) {
                d++;
            }
            if (d == 6) {
                return -200;
            }
            ahead = words[d].bytes();
            sum = sum(ahead);
        }
        if (p.length() < 3) {
            return -200 - p.length();
        }
        if (p.charAt(1) != sum / 256 || p.charAt(2) != sum % 256) {
            return -201;
        }
        if (p.length() == 3 || p.charAt(3) > 200) {
            return -203;
        }
        StringBuilder row = new StringBuilder(ahead);
        int whole = ahead.length() + p.charAt(3);
        int at = 4;
        while (row.length() < whole) {
            if (at == p.length()) {
                return -200 - at;
            }
            int c = p.charAt(at);
            int n = c < 32 ? c + 1 : c / 32 + 2;
            if (row.length() + n > whole) {
                return -200 - at;
            }
            at++;
            if (c < 32) {
                for (int k = 0; k < n; k++, at++) {
                    if (at == p.length()) {
                        return -200 - at;
                    }
                    row.append(p.charAt(at));
                }
            } else {
                if (at == p.length()) {
                    return -200 - at;
                }
                int from = row.length() - (256 * (c % 32) + p.charAt(at) + 1);
                if (from < 0) {
                    return -200 - at;
                }
                for (int k = 0; k < n; k++) {
                    row.append(row.charAt(from + k));
                }
                at++;
            }
        }
        if (at < p.length()) {
            return -200 - at;
        }
        opened = row.substring(ahead.length());
        return opened.length();
    }

    int text(int i) {
        return byteOf(opened, i);
    }

    int size(int s, int d) {
        if (s < 0 || s >= samples.size() || d != -1 && !isThere(d)) {
            return -101;
        }
        return packedBytes(d == -1 ? "" : words[d].bytes(), samples.get(s));
    }

    int best(int s) {
        if (s < 0 || s >= samples.size()) {
            return -101;
        }
        int best = -1;
        for (int d = 0; d < 6; d++) {
            if (isThere(d) && size(s, d) < size(s, best)) {
                best = d;
            }
        }
        return best;
    }

    int share(int d) {
        if (!isThere(d)) {
            return -101;
        }
        if (samples.isEmpty()) {
            throw new ArithmeticException();
        }
        int none = packedSamples("");
        return (none - packedSamples(words[d].bytes())) * 1000 / none;
    }

    int about(int what) {
        int there = 0;
        for (Words w : words) {
            there += w == null ? 0 : 1;
        }
        return switch (what) {
            case 0 -> tape.length();
            case 1 -> samples.size();
            case 2 -> there;
            case 3 -> packed.length();
            case 4 -> opened.length();
            case 5 -> items;
            case 6 -> matches;
            default -> -102;
        };
    }

    private boolean isThere(int d) {
        return d >= 0 && d < 6 && words[d] != null;
    }

    private String takeTape() {
        String taken = tape;
        tape = "";
        return taken;
    }

    private static int byteOf(String row, int i) {
        if (i < 0 || i >= row.length()) {
            throw new ArrayIndexOutOfBoundsException();
        }
        return row.charAt(i);
    }

    private static int sum(String row) {
        int a = 1;
        int b = 0;
        for (char c : row.toCharArray()) {
            a = (a + c) % 251;
            b = (b + a) % 251;
        }
        return 256 * b + a;
    }
}
