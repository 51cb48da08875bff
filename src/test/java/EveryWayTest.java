import java.util.ArrayList;
import java.util.List;

/**
 * Short texts of two kinds of bytes, all of them: every way of packing one is written out, and the one that the document
 * asks for is picked from the whole list by its own words, place by place.
 */
public final class EveryWayTest extends Bench {
    private static final int LONGEST = 9;
    private static final String[] DICTIONARIES = {"", "a", "ab", "aaa", "abab", "babba", "aabbaabb", "bbbaaabab"};
    private static final int ID = 5;

    public static void main(String[] args) {
        EveryWayTest test = new EveryWayTest();
        for (String words : DICTIONARIES) {
            test.packsEveryText(words);
        }
        test.check.end("EveryWayTest");
    }

    private void packsEveryText(String words) {
        check.says("It has the fewest bytes that there can be; of such ways at each place of the TEXT, from the left on");
        for (int length = 0; length <= LONGEST; length++) {
            for (int bits = 0; bits < 1 << length; bits++) {
                StringBuilder text = new StringBuilder();
                for (int i = 0; i < length; i++) {
                    text.append((bits >> i & 1) == 0 ? 'a' : 'b');
                }
                packsAndOpens(words, text.toString());
            }
        }
    }

    private void packsAndOpens(String words, String text) {
        List<List<int[]>> ways = new ArrayList<>();
        addWays(words + text, words.length(), new ArrayList<>(), ways);
        List<int[]> due = pick(ways);
        int[] bytes = bytesOf(due, text);
        TrainedSegments x = new TrainedSegments();
        give(x, 0, ID, words);
        String what = text + " by " + words;
        items(what, x, text, 0, bytes);
        check.due(what + ", ITEMS", x.about(5), due.size());
        check.due(what + ", MATCHES", x.about(6), due.stream().filter(item -> item[1] > 0).count());
        int[] out = new int[x.about(3)];
        for (int i = 0; i < out.length; i++) {
            out[i] = x.out(i);
        }
        opened(what + ", opened", x, text.length(), out);
        textIs(what + ", TEXT", x, text);
    }

    /** An item is how many bytes it gives, and D, or 0 for bytes as they are. */
    private static void addWays(String row, int at, List<int[]> begun, List<List<int[]>> ways) {
        if (at == row.length()) {
            ways.add(new ArrayList<>(begun));
        }
        for (int n = 1; at + n <= row.length(); n++) {
            for (int d = 0; d <= (n < 3 ? 0 : at); d++) {
                if (d == 0 || row.regionMatches(at - d, row, at, n)) {
                    begun.add(new int[] {n, d});
                    addWays(row, at + n, begun, ways);
                    begun.remove(begun.size() - 1);
                }
            }
        }
    }

    private static List<int[]> pick(List<List<int[]>> ways) {
        List<int[]> best = null;
        for (List<int[]> way : ways) {
            if (best == null || cost(way) < cost(best) || cost(way) == cost(best) && isAhead(way, best)) {
                best = way;
            }
        }
        return best;
    }

    private static int cost(List<int[]> way) {
        return way.stream().mapToInt(item -> item[1] > 0 ? 2 : 1 + item[0]).sum();
    }

    /** By the first item in which they differ; until there both stand at the same place of the text. */
    private static boolean isAhead(List<int[]> one, List<int[]> other) {
        for (int i = 0; i < one.size(); i++) {
            int[] a = one.get(i);
            int[] b = other.get(i);
            if (a[1] > 0 != b[1] > 0) {
                return a[1] > 0;
            }
            if (a[0] != b[0]) {
                return a[0] > b[0];
            }
            if (a[1] != b[1]) {
                return a[1] < b[1];
            }
        }
        return false;
    }

    private static int[] bytesOf(List<int[]> way, String text) {
        List<Integer> bytes = new ArrayList<>();
        int at = 0;
        for (int[] item : way) {
            if (item[1] > 0) {
                bytes.add((item[0] - 2) * 32);
                bytes.add(item[1] - 1);
            } else {
                bytes.add(item[0] - 1);
                text.substring(at, at + item[0]).chars().forEach(bytes::add);
            }
            at += item[0];
        }
        return bytes.stream().mapToInt(Integer::intValue).toArray();
    }
}
