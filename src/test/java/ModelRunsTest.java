import java.util.ArrayList;
import java.util.List;
import java.util.Random;

/** Runs of 512 calls, made from fixed seeds, in which the class must answer as the naive model does. */
public final class ModelRunsTest {
    private static final int CALLS = 512;
    private static final int RUNS = 400;

    private final Check check;
    private final Random random;
    private final long seed;
    private final int letters;
    private final List<byte[]> phrases = new ArrayList<>();
    private final TrainedSegments real = new TrainedSegments();
    private final NaiveModel model = new NaiveModel();
    private int calls;

    private ModelRunsTest(Check check, long seed) {
        this.check = check;
        this.seed = seed;
        random = new Random(seed);
        letters = 1 + random.nextInt(random.nextBoolean() ? 4 : 12);
        for (int i = 0; i < 4; i++) {
            phrases.add(letterRow(3 + random.nextInt(9)));
        }
    }

    public static void main(String[] args) {
        Check check = new Check();
        for (long seed = 1; seed <= RUNS; seed++) {
            new ModelRunsTest(check, seed).run();
        }
        check.end("ModelRunsTest");
    }

    private void run() {
        while (calls < CALLS) {
            switch (random.nextInt(16)) {
                case 0, 1, 2 -> makeSample();
                case 3, 4 -> {
                    int d = number();
                    int n = random.nextInt(8) == 0 ? oddOr(random.nextInt(12) - 1) : 3 + random.nextInt(6);
                    int bound = random.nextInt(8) == 0 ? oddOr(random.nextInt(84) - 2) : 20 + random.nextInt(61);
                    train(d, id(), n, bound);
                    lookAt(d);
                }
                case 5 -> {
                    write(row(random.nextInt(random.nextInt(4) == 0 ? 90 : 40)));
                    int d = number();
                    int id = id();
                    ask("give(" + d + ", " + id + ")", () -> real.give(d, id), () -> model.give(d, id));
                    lookAt(d);
                }
                case 6, 7 -> {
                    int d = number();
                    ask("trim(" + d + ")", () -> real.trim(d), () -> model.trim(d));
                    lookAt(d);
                }
                case 8, 9, 10 -> packAndOpen();
                case 11 -> openNoise();
                case 12 -> sometimesForgetOrDrop();
                case 13 -> {
                    int s = oddOr(random.nextInt(10) - 1);
                    int d = number();
                    ask("size(" + s + ", " + d + ")", () -> real.size(s, d), () -> model.size(s, d));
                    ask("best(" + s + ")", () -> real.best(s), () -> model.best(s));
                }
                case 14 -> {
                    int d = number();
                    int i = oddOr(0);
                    ask("content(" + d + ", " + i + ")", () -> real.content(d, i), () -> model.content(d, i));
                    ask("told(" + d + ", " + i + ")", () -> real.told(d, i), () -> model.told(d, i));
                    ask("out(" + i + ")", () -> real.out(i), () -> model.out(i));
                    ask("text(" + i + ")", () -> real.text(i), () -> model.text(i));
                    ask("about(" + i + ")", () -> real.about(i), () -> model.about(i));
                    ask("feed(" + (i - 8) + ", 0)", () -> real.feed(i - 8, 0), () -> model.feed(i - 8, 0));
                    ask("share(" + d + ")", () -> real.share(d), () -> model.share(d));
                }
                default -> {
                    for (int what = -1; what <= 7; what++) {
                        int w = what;
                        ask("about(" + w + ")", () -> real.about(w), () -> model.about(w));
                    }
                }
            }
        }
    }

    private void ask(String call, Check.Call ofReal, Check.Call ofModel) {
        if (calls < CALLS) {
            calls++;
            check.due("seed " + seed + ", call " + calls + ", " + call, Check.told(ofReal), Check.told(ofModel));
        }
    }

    private void makeSample() {
        write(row(1 + random.nextInt(random.nextInt(10) == 0 ? 44 : 40)));
        ask("sample()", real::sample, model::sample);
    }

    private void train(int d, int id, int n, int bound) {
        ask("train(" + d + ", " + id + ", " + n + ", " + bound + ")",
                () -> real.train(d, id, n, bound), () -> model.train(d, id, n, bound));
    }

    private void packAndOpen() {
        write(row(random.nextInt(random.nextInt(3) == 0 ? 180 : 60)));
        int d = number();
        ask("pack(" + d + ")", () -> real.pack(d), () -> model.pack(d));
        int length = model.about(3);
        ask("about(5)", () -> real.about(5), () -> model.about(5));
        ask("about(6)", () -> real.about(6), () -> model.about(6));
        byte[] packed = new byte[Math.min(length, 200)];
        for (int i = 0; i < packed.length; i++) {
            packed[i] = (byte) model.out(i);
        }
        for (int i = -1; i <= length; i++) {
            int at = i;
            if (random.nextInt(4) == 0) {
                ask("out(" + at + ")", () -> real.out(at), () -> model.out(at));
            }
        }
        write(random.nextInt(3) == 0 ? packed : spoiled(packed));
        openAndLook();
    }

    private void openAndLook() {
        ask("open()", real::open, model::open);
        ask("about(4)", () -> real.about(4), () -> model.about(4));
        for (int i = -1; i <= model.about(4); i++) {
            int at = i;
            if (random.nextInt(6) == 0) {
                ask("text(" + at + ")", () -> real.text(at), () -> model.text(at));
            }
        }
    }

    private byte[] spoiled(byte[] packed) {
        byte[] spoiled = packed.clone();
        if (spoiled.length > 4 && random.nextInt(4) != 0) {
            int at = random.nextInt(4) == 0 ? random.nextInt(spoiled.length) : 3 + random.nextInt(spoiled.length - 3);
            spoiled[at] = (byte) (random.nextBoolean() ? random.nextInt(256) : spoiled[at] + random.nextInt(5) - 2);
            return spoiled;
        }
        return java.util.Arrays.copyOf(packed, Math.max(0, packed.length + random.nextInt(5) - 3));
    }

    private void openNoise() {
        byte[] noise = new byte[random.nextInt(16)];
        for (int i = 0; i < noise.length; i++) {
            int behindHeader = random.nextInt(random.nextBoolean() ? 5 : 256);
            noise[i] = (byte) (i < 3 ? 0 : i == 3 ? random.nextInt(20) : behindHeader);
        }
        write(noise);
        openAndLook();
    }

    private void sometimesForgetOrDrop() {
        if (random.nextInt(3) == 0) {
            ask("forget()", real::forget, model::forget);
        }
        int d = number();
        ask("drop(" + d + ")", () -> real.drop(d), () -> model.drop(d));
    }

    private void lookAt(int d) {
        for (int what = -1; what < 14; what++) {
            int w = what;
            if (random.nextInt(4) == 0) {
                ask("told(" + d + ", " + w + ")", () -> real.told(d, w), () -> model.told(d, w));
            }
        }
        int bytes = Math.max(model.told(d, 2), 0);
        for (int i = -1; i <= bytes; i++) {
            int at = i;
            if (random.nextInt(3) == 0) {
                ask("content(" + d + ", " + at + ")", () -> real.content(d, at), () -> model.content(d, at));
            }
        }
    }

    private void write(byte[] row) {
        for (int i = 0; i < row.length; i += 8) {
            int n = Math.min(8, row.length - i);
            long w = random.nextLong();
            for (int k = 0; k < n; k++) {
                w = w << 8 | row[i + k] & 255;
            }
            long bytes = w;
            ask("feed(" + n + ", " + bytes + ")", () -> real.feed(n, bytes), () -> model.feed(n, bytes));
        }
        if (random.nextInt(40) == 0) {
            int n = random.nextBoolean() ? 0 : 9;
            ask("feed(" + n + ", 1)", () -> real.feed(n, 1), () -> model.feed(n, 1));
        }
    }

    private byte[] row(int length) {
        byte[] row = new byte[length];
        int at = 0;
        while (at < length) {
            byte[] part = random.nextInt(3) == 0 ? letterRow(1 + random.nextInt(3)) : phrases.get(random.nextInt(4));
            int n = Math.min(part.length, length - at);
            System.arraycopy(part, 0, row, at, n);
            at += n;
        }
        return row;
    }

    private byte[] letterRow(int length) {
        byte[] row = new byte[length];
        for (int i = 0; i < length; i++) {
            row[i] = (byte) (250 + random.nextInt(letters));
        }
        return row;
    }

    private int number() {
        return random.nextInt(12) == 0 ? oddOr(random.nextInt(12) - 3) : random.nextInt(4) - 1;
    }

    private int id() {
        return random.nextInt(10) == 0 ? oddOr(random.nextInt(270) - 5) : 1 + random.nextInt(3);
    }

    /** Now and then a number far from all that is meant. */
    private int oddOr(int value) {
        int[] odd = {Integer.MIN_VALUE, Integer.MAX_VALUE, Integer.MIN_VALUE + 9, 1 << 30, -256};
        return random.nextInt(4) == 0 ? odd[random.nextInt(odd.length)] : value;
    }
}
