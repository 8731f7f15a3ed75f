import java.util.Random;

/** Random runs of calls beside the model; the seeds are fixed, so that every run can be run again. */
public final class DefinitionTest {
    private static final int RUNS = 600;
    private static final int RANDOM_CALLS = 500;
    private static final int FEWER_CALLS = 150;
    private static final int[] EDGE_BYTES = {
        0x00, 0x41, 0x7F, 0x80, 0x8F, 0x90, 0x9F, 0xA0, 0xAF, 0xB0, 0xBB, 0xBF, 0xC0, 0xC1, 0xC2, 0xC3, 0xD7, 0xD8,
        0xDB, 0xDC, 0xDF, 0xE0, 0xE1, 0xEC, 0xED, 0xED, 0xED, 0xEE, 0xEF, 0xF0, 0xF1, 0xF4, 0xF5, 0xFE, 0xFF, 0x10, 0x11,
    };
    private static final int[] EDGE_SIGNS = {
        0, 0x41, 0x7F, 0x80, 0x7FF, 0x800, 0xD7FF, 0xE000, 0xFEFF, 0xFFFD, 0xFFFE, 0xFFFF, 0x10000, 0x1F600, 0x10FFFF,
    };
    private static final int[] MARKS = {0xEFBBBF, 0xFEFF, 0xFFFE, 0x0000FEFF, 0xFFFE0000};
    private static final int[] MARK_LENGTHS = {3, 2, 2, 4, 4};

    private final Due due;
    private final Random random;
    private final Counted x = new Counted();
    private final Model model = new Model();
    private final int seed;

    private DefinitionTest(Due due, int seed) {
        this.due = due;
        this.seed = seed;
        random = new Random(seed);
    }

    public static void main(String[] args) {
        Due due = new Due();
        for (int seed = 0; seed < RUNS && due.wrong() < 20; seed++) {
            new DefinitionTest(due, seed).run();
        }
        due.close("DefinitionTest");
    }

    private void run() {
        for (int s = 0; s < 4; s++) {
            if (random.nextInt(8) > 0) {
                open(s);
            }
        }
        int style = random.nextInt(4);
        boolean askAll = seed % 4 == 0;
        int kept = Counted.MOST_CALLS - (askAll ? FEWER_CALLS : RANDOM_CALLS);
        while (x.callsLeft() > kept) {
            int kind = random.nextInt(20);
            if (kind < (style == 0 ? 14 : 6)) {
                put();
            } else if (kind < 8) {
                writeOrPour(style);
            } else {
                ask();
            }
        }
        if (askAll) {
            askAll();
        }
    }

    private int stream() {
        return random.nextInt(40) == 0 ? wild() : random.nextInt(4);
    }

    private int wild() {
        int[] wild = {-1, 4, 5, 6, 7, 9, 2000, 6000, Integer.MIN_VALUE, Integer.MAX_VALUE};
        return wild[random.nextInt(wild.length)];
    }

    private int below(int bound) {
        return random.nextInt(30) == 0 ? wild() : random.nextInt(bound);
    }

    private void open(int stream) {
        int form = below(7);
        int policy = below(3);
        is("open", x.open(stream, form, policy) ? 1 : 0, model.open(stream, form, policy) ? 1 : 0, stream, form, policy);
        if (random.nextInt(2) == 0) {
            int mark = random.nextInt(MARKS.length);
            put(stream, MARKS[mark], MARK_LENGTHS[mark]);
        }
    }

    private void put() {
        int stream = stream();
        if (random.nextInt(3) == 0) {
            putSign(stream);
            return;
        }
        int n = random.nextInt(40) == 0 ? wild() : random.nextInt(3) == 0 ? 8 : 1 + random.nextInt(8);
        long w = 0;
        switch (random.nextInt(4)) {
            case 0:
                w = random.nextLong();
                break;
            case 1:
                w = EDGE_SIGNS[random.nextInt(EDGE_SIGNS.length)];
                break;
            default:
                for (int k = 0; k < 8; k++) {
                    w = w << 8 | EDGE_BYTES[random.nextInt(EDGE_BYTES.length)];
                }
                break;
        }
        put(stream, w, n);
    }

    /** What a sign stands in, in the stream's form most of the time, sometimes with a wrong byte or cut. */
    private void putSign(int stream) {
        int form = model.about(stream, 0);
        int sign = EDGE_SIGNS[random.nextInt(EDGE_SIGNS.length)] ^ random.nextInt(4);
        if (form < 0 || form > 5 || random.nextInt(8) == 0) {
            form = random.nextInt(6);
        }
        int[] row = Model.encoded(form, Character.isValidCodePoint(sign) ? sign : 0x10FFFF);
        if (random.nextInt(3) == 0) {
            row[random.nextInt(row.length)] = EDGE_BYTES[random.nextInt(EDGE_BYTES.length)];
        }
        int n = random.nextInt(4) == 0 ? 1 + random.nextInt(row.length) : row.length;
        long w = 0;
        for (int k = 0; k < n; k++) {
            w = w << 8 | row[k];
        }
        put(stream, w, n);
    }

    private void put(int stream, long w, int n) {
        is("put", x.put(stream, w, n), model.put(stream, w, n), stream, w, n);
    }

    private void writeOrPour(int style) {
        int stream = stream();
        if (random.nextInt(3) == 0) {
            int form = below(6);
            boolean marked = random.nextBoolean();
            is("write", x.write(stream, form, marked), model.write(stream, form, marked), stream, form, marked ? 1 : 0);
        } else {
            int i = below(style == 1 ? 3 : 40);
            int n = random.nextInt(3) == 0 && style == 1 ? 6000 : below(20);
            is("pour", x.pour(stream, i, n), model.pour(stream, i, n), stream, i, n);
        }
    }

    private void ask() {
        int stream = stream();
        int i = random.nextInt(3) == 0 ? below(400) : below(12);
        int what = below(9);
        switch (random.nextInt(12)) {
            case 0:
                if (random.nextInt(6) == 0) {
                    open(stream);
                }
                break;
            case 1:
                if (random.nextInt(8) == 0) {
                    is("end", x.end(stream), model.end(stream), stream);
                }
                break;
            case 2:
            case 3:
                is("about", x.about(stream, what), model.about(stream, what), stream, what);
                break;
            case 4:
                is("sign", x.sign(stream, i), model.sign(stream, i), stream, i);
                break;
            case 5:
                what = below(3);
                is("placed", x.placed(stream, i, what), model.placed(stream, i, what), stream, i, what);
                break;
            case 6:
                is("at", x.at(stream, i), model.at(stream, i), stream, i);
                break;
            case 7:
                askSize(stream);
                break;
            case 8:
                is("out", x.out(i), model.out(i), i);
                break;
            case 9:
                what = below(6);
                is("check", x.check(what), model.check(what), what);
                break;
            case 10:
                askOrder(stream);
                break;
            default:
                askAmong(stream);
                break;
        }
    }

    private void askSize(int stream) {
        int form = below(6);
        int from = below(30);
        int to = below(60);
        is("size", x.size(stream, form, from, to), model.size(stream, form, from, to), stream, form, from, to);
    }

    private void askOrder(int stream) {
        int second = stream();
        int way = below(3);
        is("order", x.order(stream, second, way), model.order(stream, second, way), stream, second, way);
    }

    private void askAmong(int stream) {
        int from = EDGE_SIGNS[random.nextInt(EDGE_SIGNS.length)] + random.nextInt(3) - 1;
        int to = EDGE_SIGNS[random.nextInt(EDGE_SIGNS.length)] + random.nextInt(3) - 1;
        is("among", x.among(stream, from, to), model.among(stream, from, to), stream, from, to);
    }

    /** Asks for all there is, a stream after the other, until no call is left. */
    private void askAll() {
        for (int turn = 0; turn < 4; turn++) {
            askStream((seed / 4 + turn) % 4);
        }
        for (int i = 0; x.callsLeft() > 0 && i <= 6000; i++) {
            is("out", x.out(i), model.out(i), i);
        }
    }

    private void askStream(int s) {
        for (int what = 0; what < 9 && x.callsLeft() > 0; what++) {
            is("about", x.about(s, what), model.about(s, what), s, what);
        }
        for (int i = model.about(s, 2); i >= 0 && x.callsLeft() > 3; i--) {
            is("sign", x.sign(s, i), model.sign(s, i), s, i);
            for (int what = 0; what < 3; what++) {
                is("placed", x.placed(s, i, what), model.placed(s, i, what), s, i, what);
            }
        }
        for (int place = model.about(s, 1); place >= 0 && x.callsLeft() > 0; place--) {
            is("at", x.at(s, place), model.at(s, place), s, place);
        }
    }

    private void is(String call, long got, long want, long... arguments) {
        if (got != want) {
            due.is("seed " + seed + ": " + call + java.util.Arrays.toString(arguments), got, want);
        } else {
            due.is(call, got, want);
        }
    }
}
