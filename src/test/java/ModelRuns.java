import java.math.BigInteger;
import java.util.ArrayList;
import java.util.Arrays;
import java.util.List;
import java.util.Random;

/** Runs of 512 calls drawn from fixed seeds, each answer against a plain model's. */
public final class ModelRuns {
    private static final int RUNS = 1500;
    private static final int CALLS = 512;
    private static final int MOST_TOLD = 20;

    private static final long[] LONGS = {
        0, 1, -1, 7, -7, 10, -10, 99, -100, 128, -129, 1000, 65536, 999999999L, -999999999L, 1000000000L,
        Integer.MAX_VALUE, Integer.MIN_VALUE, Long.MAX_VALUE, Long.MIN_VALUE, Long.MAX_VALUE - 5, Long.MIN_VALUE + 5
    };
    private static final int[] FAR = {-5, -4, -3, -2, -1, 100, 101, 200, 201, 300, 301, Integer.MAX_VALUE, Integer.MIN_VALUE};

    public static void main(String[] args) {
        int wrong = 0;
        for (int seed = 0; seed < RUNS && wrong < MOST_TOLD; seed++) {
            wrong += oneRun(seed);
        }
        System.out.println(wrong == 0 ? "the model answers the same" : wrong + " runs differ from the model");
        if (wrong != 0) {
            System.exit(1);
        }
    }

    private static int oneRun(int seed) {
        Draw draw = new Draw(seed);
        CobolDebugger x = new CobolDebugger();
        Model m = new Model();
        for (int call = 0; call < CALLS; call++) {
            String text = draw.next(m);
            String got = answer(x, draw);
            String want = m.answer(draw);
            if (!got.equals(want)) {
                System.out.println("seed " + seed + ", call " + call + ": " + text + " answered " + got + ", the model " + want);
                return 1;
            }
        }
        return 0;
    }

    private static String answer(CobolDebugger x, Draw d) {
        try {
            return Long.toString(call(x, d));
        } catch (RuntimeException e) {
            boolean byMachine = e.getMessage() != null && e.getMessage().contains("out of bounds for length");
            return byMachine ? "thrown by the machine" : e.getClass().getSimpleName();
        }
    }

    private static long call(CobolDebugger x, Draw d) {
        switch (d.method) {
            case 0: return x.statement(d.a, d.b);
            case 1: return x.item(d.a, d.b);
            case 2: return x.step(d.a, d.b, d.v);
            case 3: return x.stop(d.a, d.b, d.c);
            case 4: return x.run(d.a);
            case 5: return x.show(d.a);
            case 6: return x.change(d.a, d.v);
            case 7: return x.back(d.a);
            case 8: return x.performed(d.a);
            case 9: return x.count(d.a);
            case 10: return x.caught(d.a, d.b);
            case 11: return x.near(d.a);
            case 12: return x.octet(d.a, d.b);
            case 13: return x.poke(d.a, d.b, (byte) d.c);
            default: return x.told(d.a);
        }
    }

    /** The next call: mostly one that the state allows. */
    private static final class Draw {
        private static final String[] NAMES = {
            "statement", "item", "step", "stop", "run", "show", "change", "back",
            "performed", "count", "caught", "near", "octet", "poke", "told"
        };
        private final Random random;
        /** How much of each method a run has: programs grow at first in some, all along in others. */
        private final int paragraphs;
        private final int longRun;
        private final boolean early;
        private int made;
        private int method;
        private int a;
        private int b;
        private int c;
        private long v;

        private Draw(int seed) {
            random = new Random(seed);
            paragraphs = 1 + random.nextInt(20);
            longRun = random.nextInt(3) == 0 ? 200 : 12;
            early = random.nextBoolean();
        }

        private int below(int n) {
            return random.nextInt(Math.max(1, n));
        }

        private int usual(int value) {
            return below(25) == 0 ? FAR[below(FAR.length)] : value;
        }

        private String next(Model m) {
            made++;
            boolean build = early && made < 120;
            method = build && below(4) != 0 ? below(3) : below(15);
            if (!build && early && method == 0 && below(4) != 0) {
                method = 4;
            }
            v = LONGS[below(LONGS.length)];
            c = below(256) - 128;
            int item = usual(below(m.items.size() + 1));
            int statements = m.paragraph.size();
            switch (method) {
                case 0:
                    a = usual(below(3) != 0 && statements > 0 ? m.paragraph.get(statements - 1) : below(paragraphs));
                    b = usual(1 + below(20));
                    break;
                case 1:
                    a = usual(below(3));
                    b = usual(1 + below(a == 1 ? 4 : 9));
                    break;
                case 2:
                    a = usual(1 + below(statements));
                    b = below(2) == 0 ? -2 - below(paragraphs) : below(20) == 0 ? -2 - below(23) : item;
                    break;
                case 3:
                    a = usual(below(3) == 0 ? below(5) : 4);
                    b = a == 2 || a == 3 ? item : usual(below(22));
                    c = usual(a == 3 ? 50 + below(1000000) : below(4));
                    break;
                case 4:
                    a = usual(below(longRun + 1));
                    break;
                case 7:
                    a = usual(below(4) == 0 ? below(m.kept.size() + 2) : below(4));
                    break;
                case 8:
                    a = usual(below(21));
                    break;
                case 9:
                    a = usual(below(paragraphs + 1));
                    break;
                case 10:
                    a = usual(below(22));
                    b = usual(below(4));
                    break;
                case 12:
                case 13:
                    a = item;
                    b = usual(below(10));
                    if (below(3) != 0) {
                        c = 48 + below(10) + (below(2) == 0 ? 64 : 0);
                    }
                    break;
                case 14:
                    a = usual(below(8));
                    break;
                default:
                    a = item;
            }
            return NAMES[method] + "(" + a + ", " + b + ", " + c + ", " + v + ")";
        }
    }

    private static final class Frame {
        private final int by;
        private final int last;

        private Frame(int by, int last) {
            this.by = by;
            this.last = last;
        }
    }

    private static final class Row {
        private int number;
        private int item;
        private byte[] bytes;
        private List<Frame> frames;
        private int[] counts;
    }

    /** The document word by word: whole states are kept, paragraphs are looked for anew, sums have any size. */
    private static final class Model {
        private final List<Integer> paragraph = new ArrayList<>();
        private final List<Integer> line = new ArrayList<>();
        private final List<Integer> what = new ArrayList<>();
        private final List<Long> more = new ArrayList<>();
        private final List<byte[]> items = new ArrayList<>();
        private final List<Integer> usage = new ArrayList<>();
        private final List<int[]> stops = new ArrayList<>();
        private List<Frame> frames = new ArrayList<>();
        private int[] counts = new int[20];
        private final List<Row> kept = new ArrayList<>();
        private int stand = 0;
        private int faults = 0;

        private String answer(Draw d) {
            switch (d.method) {
                case 0: return "" + addStatement(d.a, d.b);
                case 1: return "" + addItem(d.a, d.b);
                case 2: return "" + setStep(d.a, d.b, d.v);
                case 3: return "" + addStop(d.a, d.b, d.c);
                case 4: return "" + runSome(d.a);
                case 5:
                    return !has(d.a) ? "IllegalArgumentException" : says(d.a) == null ? "IllegalStateException" : "" + says(d.a);
                case 6: return "" + (!has(d.a) ? -2 : usage.get(d.a) == 2 ? 0 : put(d.a, BigInteger.valueOf(d.v)));
                case 7: return "" + goBack(d.a);
                case 8: return "" + (d.a < 0 || d.a >= frames.size() ? 0 : frames.get(frames.size() - 1 - d.a).by);
                case 9: return "" + (d.a < 0 || d.a > 19 ? -4 : counts[d.a]);
                case 10: return "" + task(d.a, d.b);
                case 11: return "" + nearest(d.a);
                case 12: return !has(d.a) || d.b < 0 || d.b >= items.get(d.a).length
                    ? "ArrayIndexOutOfBoundsException" : "" + items.get(d.a)[d.b];
                case 13: return "" + setByte(d.a, d.b, (byte) d.c);
                default: return "" + tell(d.a);
            }
        }

        private boolean has(int item) {
            return item >= 0 && item < items.size();
        }

        private int addStatement(int p, int l) {
            if (p < 0 || p > 19 || l < 1 || l > 9999) {
                return -4;
            }
            if (paragraph.size() == 100) {
                return -1;
            }
            paragraph.add(p);
            line.add(l);
            what.add(-1);
            more.add(0L);
            stand = paragraph.size() == 1 ? 1 : stand;
            return paragraph.size();
        }

        private int addItem(int u, int size) {
            if (u < 0 || u > 2 || size < 1 || size > (u == 1 ? 4 : 9)) {
                return -4;
            }
            if (items.size() == 30) {
                return -1;
            }
            byte[] bytes = new byte[size];
            Arrays.fill(bytes, (byte) (u == 1 ? 0 : '0'));
            items.add(bytes);
            usage.add(u);
            return items.size() - 1;
        }

        private int setStep(int s, int item, long v) {
            if (s < 1 || s > paragraph.size() || item >= items.size()) {
                return -2;
            }
            if (item < -21) {
                return -4;
            }
            what.set(s - 1, item);
            more.set(s - 1, v);
            return 1;
        }

        private int addStop(int kind, int of, int condition) {
            if (kind < 0 || kind > 4) {
                return -4;
            }
            if ((kind == 2 || kind == 3) && !has(of)) {
                return -2;
            }
            if (stops.size() == 20) {
                return -1;
            }
            stops.add(new int[] {kind, of, condition});
            return stops.size();
        }

        /** What an item says; null when it is bad. */
        private BigInteger says(int item) {
            byte[] bytes = items.get(item);
            if (usage.get(item) == 1) {
                return new BigInteger(bytes);
            }
            StringBuilder text = new StringBuilder();
            for (int i = 0; i < bytes.length; i++) {
                char digit = (char) (bytes[i] & 255);
                if (i == bytes.length - 1 && digit >= 'p' && digit <= 'y') {
                    text.insert(0, '-');
                    digit -= 64;
                }
                if (digit < '0' || digit > '9') {
                    return null;
                }
                text.append(digit);
            }
            return new BigInteger(text.toString());
        }

        private int put(int item, BigInteger value) {
            byte[] bytes = items.get(item);
            if (usage.get(item) == 1) {
                for (int i = 0; i < bytes.length; i++) {
                    bytes[i] = value.shiftRight(8 * (bytes.length - 1 - i)).byteValue();
                }
                return 1;
            }
            String digits = "000000000" + value.abs();
            digits = digits.substring(digits.length() - bytes.length);
            boolean zero = new BigInteger(digits).signum() == 0;
            for (int i = 0; i < bytes.length; i++) {
                bytes[i] = (byte) digits.charAt(i);
            }
            if (value.signum() < 0 && !zero) {
                bytes[bytes.length - 1] += 64;
            }
            return 1;
        }

        private int firstOf(int p) {
            return paragraph.indexOf(p) + 1;
        }

        private int lastOf(int p) {
            int last = firstOf(p);
            while (last < paragraph.size() && paragraph.get(last) == p) {
                last++;
            }
            return last;
        }

        private int runSome(int n) {
            if (n < 0 || n > 200) {
                return -4;
            }
            for (int i = 0; i < n; i++) {
                if (stand == 0) {
                    return 0;
                }
                for (int s = 0; i > 0 && s < stops.size(); s++) {
                    int[] stop = stops.get(s);
                    if (stop[0] == 0 && stand == firstOf(stop[1]) || stop[0] == 1 && line.get(stand - 1) == stop[1]) {
                        return s + 1;
                    }
                }
                List<byte[]> ahead = new ArrayList<>();
                for (byte[] bytes : items) {
                    ahead.add(bytes.clone());
                }
                runOne();
                for (int s = 0; s < stops.size(); s++) {
                    int[] stop = stops.get(s);
                    if (stop[0] == 2 && !Arrays.equals(ahead.get(stop[1]), items.get(stop[1]))) {
                        return s + 1;
                    }
                    if (stop[0] == 3 && says(stop[1]) != null && says(stop[1]).compareTo(BigInteger.valueOf(stop[2])) >= 0) {
                        return s + 1;
                    }
                }
            }
            return 0;
        }

        private void runOne() {
            int number = stand;
            int does = what.get(number - 1);
            Row row = new Row();
            row.number = number;
            row.item = does;
            row.bytes = does >= 0 ? items.get(does).clone() : null;
            row.frames = new ArrayList<>(frames);
            row.counts = counts.clone();
            kept.add(row);
            if (kept.size() > 300) {
                kept.remove(0);
            }
            counts[paragraph.get(number - 1)]++;
            if (does <= -2 && firstOf(-2 - does) != 0 && frames.size() < 20) {
                frames.add(new Frame(number, lastOf(-2 - does)));
                stand = firstOf(-2 - does);
                return;
            }
            if (does <= -2 || does >= 0 && says(does) == null) {
                faults++;
            } else if (does >= 0 && usage.get(does) != 2) {
                put(does, says(does).add(BigInteger.valueOf(more.get(number - 1))));
            }
            int behind = number;
            while (!frames.isEmpty() && frames.get(frames.size() - 1).last == behind) {
                behind = frames.remove(frames.size() - 1).by;
            }
            stand = behind == paragraph.size() ? 0 : behind + 1;
        }

        private int goBack(int n) {
            if (n < 0 || n > kept.size()) {
                return -4;
            }
            for (int i = 0; i < n; i++) {
                Row row = kept.remove(kept.size() - 1);
                stand = row.number;
                frames = row.frames;
                counts = row.counts;
                if (row.item >= 0) {
                    items.set(row.item, row.bytes);
                }
            }
            return stand;
        }

        private int task(int code, int terminal) {
            for (int s = 0; s < stops.size(); s++) {
                if (Arrays.equals(stops.get(s), new int[] {4, code, terminal})) {
                    return s + 1;
                }
            }
            return 0;
        }

        private int nearest(int name) {
            int best = -1;
            for (int i = 0; i < items.size(); i++) {
                if (best < 0 || Math.abs((long) name - i) < Math.abs((long) name - best)) {
                    best = i;
                }
            }
            return best;
        }

        private int setByte(int item, int i, byte b) {
            if (!has(item)) {
                return -2;
            }
            if (usage.get(item) == 2) {
                return 0;
            }
            if (i < 0 || i >= items.get(item).length) {
                return -4;
            }
            items.get(item)[i] = b;
            return 1;
        }

        private int tell(int which) {
            int[] all = {paragraph.size(), items.size(), stops.size(), stand, kept.size(), faults, frames.size()};
            return which < 0 || which >= all.length ? -1 : all[which];
        }
    }
}
