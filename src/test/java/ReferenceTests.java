import java.math.BigInteger;
import java.util.NoSuchElementException;
import java.util.Random;
import java.util.TreeSet;

/** Long runs of mixed calls, right and wrong ones, beside a slow press that follows the document's words. */
public final class ReferenceTests {
    private static final int RUNS = 300;
    private static final int CALLS = 512;
    private static final long THROWN = Long.MIN_VALUE;

    private static int wrong = 0;

    public static void main(String[] args) {
        for (int seed = 0; seed < RUNS && wrong == 0; seed++) {
            run(seed);
        }
        everyNet();
        everyBeat();
        everyEvening();
        System.out.println(wrong == 0 ? "both presses answer alike" : wrong + " answers are wrong");
        if (wrong != 0) {
            System.exit(1);
        }
    }

    private static void due(String call, long got, long want) {
        if (got != want) {
            wrong++;
            if (wrong < 20) {
                System.out.println(call + " answered " + got + ", due is " + want);
            }
        }
    }

    private static long bit(boolean is) {
        return is ? 1 : 0;
    }

    private static long worth(DotPress press, int one, int other) {
        try {
            return press.worth(one, other);
        } catch (NoSuchElementException e) {
            return THROWN;
        }
    }

    /** Mostly low .. high, at times just outside or far out. */
    private static int about(Random random, int low, int high) {
        int kind = random.nextInt(40);
        if (kind == 0) {
            return low - 1;
        }
        if (kind == 1) {
            return high + 1;
        }
        if (kind == 2) {
            return random.nextBoolean() ? Integer.MAX_VALUE : Integer.MIN_VALUE;
        }
        if (kind < 6) {
            return random.nextBoolean() ? low : high;
        }
        return low + random.nextInt(high - low + 1);
    }

    private static void run(int seed) {
        Random random = new Random(seed);
        DotPress press = new DotPress();
        Plain plain = new Plain();
        for (int call = 0; call < CALLS; call++) {
            String where = "seed " + seed + ", call " + call;
            if (random.nextInt(3) == 0) {
                change(random, press, plain, where);
            } else {
                ask(random, press, plain, where);
            }
        }
    }

    private static void change(Random random, DotPress press, Plain plain, String where) {
        int x = about(random, 0, plain.w - 1);
        int y = about(random, 0, plain.h - 1);
        boolean is = random.nextInt(4) != 0;
        int grey = about(random, 0, 255);
        int p = about(random, -8, 8);
        int q = about(random, -8, 8);
        int last = plain.n * plain.n - 1;
        switch (random.nextInt(12)) {
            case 0:
                int w = about(random, 1, 24);
                int h = about(random, 1, 24);
                due(where + " picture", bit(press.picture(w, h)), bit(plain.picture(w, h)));
                break;
            case 1:
            case 2:
                due(where + " shade", bit(press.shade(x, y, grey)), bit(plain.shade(x, y, grey)));
                break;
            case 3:
            case 4:
                int bw = about(random, 1, Math.max(1, plain.w - Math.abs(x % 24)));
                int bh = about(random, 1, Math.max(1, plain.h - Math.abs(y % 24)));
                int step = random.nextBoolean() ? about(random, -255, 255) : about(random, -15, 15);
                due(where + " ramp", bit(press.ramp(x, y, bw, bh, grey, step)), bit(plain.ramp(x, y, bw, bh, grey, step)));
                break;
            case 5:
            case 6:
                due(where + " line", bit(press.line(x, y, is)), bit(plain.line(x, y, is)));
                break;
            case 7:
                int n = about(random, 1, 8);
                due(where + " table", bit(press.table(n)), bit(plain.table(n)));
                break;
            case 8:
                int one = about(random, 0, last);
                int other = about(random, 0, last);
                due(where + " exchange", bit(press.exchange(one, other)), bit(plain.exchange(one, other)));
                break;
            case 9:
                due(where + " back", bit(press.back(is)), bit(plain.back(is)));
                break;
            case 10:
                due(where + " net", bit(press.net(p, q)), bit(plain.net(p, q)));
                break;
            default:
                int most = plain.n < 5 ? about(random, 0, 100) : random.nextInt(4);
                due(where + " even", press.even(most), plain.even(most));
                break;
        }
    }

    private static void ask(Random random, DotPress press, Plain plain, String where) {
        int x = about(random, 0, plain.w - 1);
        int y = about(random, 0, plain.h - 1);
        int bw = about(random, 1, Math.max(1, plain.w - Math.abs(x % 24)));
        int bh = about(random, 1, Math.max(1, plain.h - Math.abs(y % 24)));
        int way = about(random, 0, 2);
        int last = plain.n * plain.n - 1;
        int one = about(random, 0, last);
        int other = about(random, 0, last);
        int p = about(random, -8, 8);
        int q = about(random, -8, 8);
        int what = about(random, 0, 1);
        switch (random.nextInt(13)) {
            case 0:
                due(where + " grey", press.grey(x, y), plain.grey(x, y));
                break;
            case 1:
                due(where + " number", press.number(one), plain.number(one));
                break;
            case 2:
                due(where + " cost", press.cost(), plain.cost());
                break;
            case 3:
                due(where + " worth", worth(press, one, other), plain.worth(one, other));
                break;
            case 4:
            case 5:
                due(where + " dot", press.dot(way, x, y), plain.dots(way, x, y, 1, 1));
                break;
            case 6:
                due(where + " dots", press.dots(way, x, y, bw, bh), plain.dots(way, x, y, bw, bh));
                break;
            case 7:
                due(where + " read", press.read(way, x, y, bw, bh), plain.read(way, x, y, bw, bh));
                break;
            case 8:
                due(where + " lost", press.lost(), plain.lost());
                break;
            case 9:
                int far = about(random, 0, 1000);
                int deep = about(random, 0, 1000);
                due(where + " rank", press.rank(far, deep), plain.rank(far, deep));
                break;
            case 10:
                due(where + " beat", press.beat(p, q, what), plain.beat(p, q, what));
                break;
            case 11:
                due(where + " best", press.best(), plain.best());
                break;
            default:
                int counted = about(random, 0, 7);
                due(where + " count", press.count(counted), plain.count(counted));
                break;
        }
    }

    private static void everyNet() {
        for (int a = -8; a <= 8; a++) {
            for (int b = -8; b <= 8; b++) {
                Plain plain = new Plain();
                plain.net(a, b);
                int m = plain.count(5);
                for (int x = 0; x <= m; x += 3) {
                    // An object is good for 512 calls alone.
                    ranksOfColumn(pressBy(a, b, plain), plain, x, a + ", " + b);
                }
            }
        }
    }

    private static DotPress pressBy(int a, int b, Plain plain) {
        DotPress press = new DotPress();
        due("net " + a + ", " + b, bit(press.net(a, b)), bit(plain.isNet(a, b)));
        due("m of " + a + ", " + b, press.count(5), plain.count(5));
        due("c of " + a + ", " + b, press.count(6), plain.count(6));
        return press;
    }

    private static void ranksOfColumn(DotPress press, Plain plain, int x, String net) {
        for (int y = 0; y <= plain.count(5); y += 2) {
            due("rank of " + net + " at " + x + ", " + y, press.rank(x, y), plain.rank(x, y));
        }
    }

    private static void everyBeat() {
        for (int a = -8; a <= 8; a++) {
            for (int b = -8; b <= 8; b++) {
                Plain plain = new Plain();
                plain.net(a, b);
                due("best of " + a + ", " + b, pressBy(a, b, plain).best(), plain.best());
                for (int c = -8; c <= 8; c++) {
                    beatsOfColumn(pressBy(a, b, plain), plain, c, "beat of " + a + ", " + b + " with " + c + ", ");
                }
            }
        }
    }

    private static void beatsOfColumn(DotPress press, Plain plain, int c, String nets) {
        for (int d = -8; d <= 8; d++) {
            due(nets + d, press.beat(c, d, 0), plain.beat(c, d, 0));
            due(nets + d, press.beat(c, d, 1), plain.beat(c, d, 1));
        }
    }

    private static void everyEvening() {
        for (int n = 1; n <= 5; n++) {
            DotPress press = new DotPress();
            Plain plain = new Plain();
            press.table(n);
            plain.table(n);
            due("even of " + n, press.even(100), plain.even(100));
            for (int place = 0; place < n * n; place++) {
                due("number after even of " + n, press.number(place), plain.number(place));
            }
        }
    }

    /** The document word by word, without a thought for speed. */
    private static final class Plain {
        int w = 8;
        int h = 8;
        int n = 1;
        int a = 2;
        int b = 1;
        boolean forth = false;
        int[][] greys = new int[8][8];
        boolean[][] lines = new boolean[8][8];
        int[] numbers = {0};
        private TreeSet<Pair> pairs = null;

        private record Pair(int m, int u, int v) implements Comparable<Pair> {
            int off() {
                return (2 * u + 1 - m) * (2 * u + 1 - m) + (2 * v + 1 - m) * (2 * v + 1 - m);
            }

            @Override
            public int compareTo(Pair o) {
                int first = Integer.compare(off(), o.off());
                int second = first != 0 ? first : Integer.compare(u, o.u);
                return second != 0 ? second : Integer.compare(v, o.v);
            }
        }

        boolean in(long value, long low, long high) {
            return value >= low && value <= high;
        }

        boolean box(long x, long y, long bw, long bh) {
            return x >= 0 && y >= 0 && bw >= 1 && bh >= 1 && x + bw <= w && y + bh <= h;
        }

        boolean picture(int width, int height) {
            if (!in(width, 1, 24) || !in(height, 1, 24)) {
                return false;
            }
            w = width;
            h = height;
            greys = new int[h][w];
            lines = new boolean[h][w];
            return true;
        }

        boolean shade(int x, int y, int grey) {
            if (!box(x, y, 1, 1) || !in(grey, 0, 255)) {
                return false;
            }
            greys[y][x] = grey;
            return true;
        }

        boolean ramp(int x, int y, int bw, int bh, int grey, int step) {
            if (!box(x, y, bw, bh) || !in(grey, 0, 255) || !in(step, -255, 255)) {
                return false;
            }
            for (int j = y; j < y + bh; j++) {
                for (int i = x; i < x + bw; i++) {
                    greys[j][i] = Math.min(255, Math.max(0, grey + step * (i - x)));
                }
            }
            return true;
        }

        boolean line(int x, int y, boolean is) {
            if (!box(x, y, 1, 1) || lines[y][x] == is) {
                return false;
            }
            lines[y][x] = is;
            return true;
        }

        int grey(int x, int y) {
            return box(x, y, 1, 1) ? greys[y][x] : -1;
        }

        boolean table(int side) {
            if (!in(side, 1, 8)) {
                return false;
            }
            n = side;
            numbers = new int[n * n];
            for (int i = 0; i < n * n; i++) {
                numbers[i] = i;
            }
            return true;
        }

        boolean two(int one, int other) {
            return in(one, 0, n * n - 1) && in(other, 0, n * n - 1) && one != other;
        }

        boolean exchange(int one, int other) {
            if (!two(one, other)) {
                return false;
            }
            int held = numbers[one];
            numbers[one] = numbers[other];
            numbers[other] = held;
            return true;
        }

        int number(int place) {
            return in(place, 0, n * n - 1) ? numbers[place] : -1;
        }

        long cost() {
            long sum = 0;
            for (int p = 0; p < n * n; p++) {
                for (int q = p + 1; q < n * n; q++) {
                    int columns = Math.abs(p % n - q % n);
                    int rows = Math.abs(p / n - q / n);
                    int dx = Math.min(columns, n - columns);
                    int dy = Math.min(rows, n - rows);
                    sum += (n * n - Math.max(numbers[p], numbers[q])) * (1000L / (dx * dx + dy * dy));
                }
            }
            return sum;
        }

        long worth(int one, int other) {
            if (!two(one, other)) {
                return THROWN;
            }
            long before = cost();
            exchange(one, other);
            long after = cost();
            exchange(one, other);
            return before - after;
        }

        int even(int most) {
            if (!in(most, 0, 100) || n > 5) {
                return -1;
            }
            for (int done = 0; done < most; done++) {
                long best = 0;
                int first = -1;
                int second = -1;
                for (int p = 0; p < n * n; p++) {
                    for (int q = p + 1; q < n * n; q++) {
                        long worth = worth(p, q);
                        if (worth > best) {
                            best = worth;
                            first = p;
                            second = q;
                        }
                    }
                }
                if (best == 0) {
                    return done;
                }
                exchange(first, second);
            }
            return most;
        }

        boolean back(boolean is) {
            boolean changes = forth != is;
            forth = is;
            return changes;
        }

        boolean isNet(int p, int q) {
            return in(p, -8, 8) && in(q, -8, 8) && !(p == 0 && q == 0);
        }

        boolean net(int p, int q) {
            if (!isNet(p, q)) {
                return false;
            }
            a = p;
            b = q;
            pairs = null;
            return true;
        }

        Pair pairOf(int x, int y) {
            int m = a * a + b * b;
            return new Pair(m, Math.floorMod(a * x + b * y, m), Math.floorMod(a * y - b * x, m));
        }

        TreeSet<Pair> allPairs() {
            if (pairs == null) {
                pairs = new TreeSet<>();
                int m = a * a + b * b;
                for (int x = 0; x < m; x++) {
                    for (int y = 0; y < m; y++) {
                        pairs.add(pairOf(x, y));
                    }
                }
            }
            return pairs;
        }

        int rank(int x, int y) {
            return in(x, 0, 1000) && in(y, 0, 1000) ? allPairs().headSet(pairOf(x, y)).size() : -1;
        }

        int gone = 0;

        boolean[][] carried() {
            gone = 0;
            boolean[][] inked = new boolean[h][w];
            int[][] came = new int[h][w];
            for (int y = 0; y < h; y++) {
                boolean right = forth && (y + 1) % 2 == 0;
                for (int i = 0; i < w; i++) {
                    int x = right ? w - 1 - i : i;
                    int next = right ? x - 1 : x + 1;
                    int before = right ? x + 1 : x - 1;
                    if (lines[y][x]) {
                        gone += came[y][x];
                        inked[y][x] = greys[y][x] >= 128;
                        continue;
                    }
                    int is = greys[y][x] + came[y][x];
                    inked[y][x] = is >= 128;
                    int miss = inked[y][x] ? is - 255 : is;
                    int seven = (int) Math.floor(miss * 7 / 16.0);
                    int three = (int) Math.floor(miss * 3 / 16.0);
                    int five = (int) Math.floor(miss * 5 / 16.0);
                    carry(came, next, y, seven);
                    carry(came, before, y + 1, three);
                    carry(came, x, y + 1, five);
                    carry(came, next, y + 1, miss - seven - three - five);
                }
            }
            return inked;
        }

        void carry(int[][] came, int x, int y, int much) {
            if (box(x, y, 1, 1)) {
                came[y][x] += much;
            } else {
                gone += much;
            }
        }

        int lost() {
            carried();
            return gone;
        }

        boolean dot(int way, int x, int y, boolean[][] inked) {
            if (lines[y][x]) {
                return greys[y][x] >= 128;
            }
            if (way == 0) {
                return n * n * greys[y][x] > 255 * numbers[(y % n) * n + x % n];
            }
            return way == 1 ? inked[y][x] : allPairs().size() * greys[y][x] > 255 * rank(x, y);
        }

        int dots(int way, int x, int y, int bw, int bh) {
            if (!in(way, 0, 2) || !box(x, y, bw, bh)) {
                return -1;
            }
            boolean[][] inked = carried();
            int sum = 0;
            for (int j = y; j < y + bh; j++) {
                for (int i = x; i < x + bw; i++) {
                    sum += dot(way, i, j, inked) ? 1 : 0;
                }
            }
            return sum;
        }

        int read(int way, int x, int y, int bw, int bh) {
            int inked = dots(way, x, y, bw, bh);
            return inked < 0 ? -1 : (int) Math.floor(255.0 * inked / (bw * bh) + 0.5);
        }

        BigInteger[] beat(int c, int d) {
            int m = a * a + b * b;
            int k = c * c + d * d;
            int[][] others = {{c, d}, {-d, c}, {-c, -d}, {d, -c}};
            BigInteger least = null;
            for (int[] o : others) {
                long dx = (long) a * k - (long) o[0] * m;
                long dy = (long) b * k - (long) o[1] * m;
                BigInteger square = BigInteger.valueOf(dx * dx + dy * dy);
                least = least == null ? square : least.min(square);
            }
            BigInteger below = BigInteger.valueOf((long) m * k).pow(2);
            BigInteger common = least.gcd(below);
            return new BigInteger[] {least.divide(common), below.divide(common)};
        }

        long beat(int c, int d, int what) {
            return isNet(c, d) && in(what, 0, 1) ? beat(c, d)[what].longValue() : -1;
        }

        int best() {
            BigInteger[] most = null;
            int told = -1;
            for (int c = 1; c <= 8; c++) {
                for (int d = 0; d <= 8; d++) {
                    BigInteger[] f = beat(c, d);
                    if (most == null || f[0].multiply(most[1]).compareTo(most[0].multiply(f[1])) > 0) {
                        most = f;
                        told = 10 * c + d;
                    }
                }
            }
            return told;
        }

        int count(int what) {
            int lineCount = 0;
            int sum = 0;
            for (int y = 0; y < h; y++) {
                for (int x = 0; x < w; x++) {
                    lineCount += lines[y][x] ? 1 : 0;
                    sum += lines[y][x] ? 0 : greys[y][x];
                }
            }
            int[] all = {w, h, lineCount, sum, n, a * a + b * b, allPairs().size(), forth ? 1 : 0};
            return in(what, 0, 7) ? all[what] : -1;
        }
    }
}
