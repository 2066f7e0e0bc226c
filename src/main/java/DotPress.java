import java.util.Arrays;
import java.util.NoSuchElementException;

/** A press for grey pictures in dots of one ink; the promises of each call stand in DOC.md. */
public final class DotPress {
    public static final int NONE = -1;

    private static final int ALL_INK = 255;
    private static final int HALF_INK = 128;

    private static final int BY_TABLE = 0;
    private static final int BY_CARRIED = 1;
    private static final int BY_GROWN = 2;

    private static final int MOST_EXCHANGES = 100;
    private static final int MOST_EVENED_SIDE = 5;
    private static final int MOST_RANKED = 1000;

    private final Sheet sheet;
    private final Steps steps;
    private final Carrier carrier;
    private final Lattice lattice;
    private boolean backAndForth;

    public DotPress() {
        sheet = new Sheet();
        steps = new Steps();
        carrier = new Carrier();
        lattice = new Lattice();
        backAndForth = false;
    }

    public boolean picture(int w, int h) {
        if (!Sheet.allows(w) || !Sheet.allows(h)) {
            return false;
        }
        sheet.renew(w, h);
        return true;
    }

    public boolean shade(int x, int y, int grey) {
        if (!sheet.has(x, y) || !isGrey(grey)) {
            return false;
        }
        sheet.setGrey(x, y, grey);
        return true;
    }

    public boolean ramp(int x, int y, int w, int h, int grey, int step) {
        if (!sheet.hasBox(x, y, w, h) || !isGrey(grey) || step < -ALL_INK || step > ALL_INK) {
            return false;
        }
        for (int column = 0; column < w; column++) {
            int wanted = grey + step * column;
            int kept = Math.max(0, Math.min(ALL_INK, wanted));
            for (int row = 0; row < h; row++) {
                sheet.setGrey(x + column, y + row, kept);
            }
        }
        return true;
    }

    public boolean line(int x, int y, boolean is) {
        if (!sheet.has(x, y) || sheet.isLine(x, y) == is) {
            return false;
        }
        sheet.setLine(x, y, is);
        return true;
    }

    public int grey(int x, int y) {
        return sheet.has(x, y) ? sheet.greyAt(x, y) : NONE;
    }

    public boolean table(int n) {
        if (!Steps.allows(n)) {
            return false;
        }
        steps.renew(n);
        return true;
    }

    public boolean exchange(int one, int other) {
        if (!steps.hasPair(one, other)) {
            return false;
        }
        steps.swap(one, other);
        return true;
    }

    public int number(int place) {
        return steps.has(place) ? steps.numberAt(place) : NONE;
    }

    public long cost() {
        return steps.unevenness();
    }

    public long worth(int one, int other) throws NoSuchElementException {
        if (!steps.hasPair(one, other)) {
            throw new NoSuchElementException("no such two places of the table");
        }
        return steps.gain(one, other);
    }

    public int even(int most) {
        if (most < 0 || most > MOST_EXCHANGES || steps.side() > MOST_EVENED_SIDE) {
            return NONE;
        }
        int done = 0;
        while (done < most && steps.swapBest()) {
            done++;
        }
        return done;
    }

    public boolean back(boolean is) {
        if (backAndForth == is) {
            return false;
        }
        backAndForth = is;
        return true;
    }

    public boolean net(int a, int b) {
        if (!Lattice.allows(a, b)) {
            return false;
        }
        lattice.renew(a, b);
        return true;
    }

    public int dot(int way, int x, int y) {
        return dots(way, x, y, 1, 1);
    }

    public int dots(int way, int x, int y, int w, int h) {
        if (way < BY_TABLE || way > BY_GROWN || !sheet.hasBox(x, y, w, h)) {
            return NONE;
        }
        if (way == BY_CARRIED) {
            carrier.goOver(sheet, backAndForth);
        }
        int inked = 0;
        for (int row = y; row < y + h; row++) {
            for (int column = x; column < x + w; column++) {
                if (isInked(way, column, row)) {
                    inked++;
                }
            }
        }
        return inked;
    }

    public int read(int way, int x, int y, int w, int h) {
        int inked = dots(way, x, y, w, h);
        if (inked == NONE) {
            return NONE;
        }
        int places = w * h;
        return places < 1 ? NONE : (2 * ALL_INK * inked + places) / (2 * places);
    }

    public int lost() {
        carrier.goOver(sheet, backAndForth);
        return carrier.gone();
    }

    public int rank(int x, int y) {
        if (x < 0 || x > MOST_RANKED || y < 0 || y > MOST_RANKED) {
            return NONE;
        }
        return lattice.rankAt(x, y);
    }

    public long beat(int c, int d, int what) {
        if (!Lattice.allows(c, d) || what < 0 || what > 1) {
            return NONE;
        }
        int above = lattice.beatAbove(c, d);
        int below = lattice.beatBelow(c, d);
        int common = commonDivisor(above, below);
        int told = what == 0 ? above : below;
        return common < 1 ? NONE : told / common;
    }

    public int best() {
        int bestC = 1;
        int bestD = 0;
        for (int c = 1; c <= Lattice.MOST; c++) {
            for (int d = 0; d <= Lattice.MOST; d++) {
                long mine = (long) lattice.beatAbove(c, d) * lattice.beatBelow(bestC, bestD);
                long held = (long) lattice.beatAbove(bestC, bestD) * lattice.beatBelow(c, d);
                if (mine > held) {
                    bestC = c;
                    bestD = d;
                }
            }
        }
        return 10 * bestC + bestD;
    }

    public int count(int what) {
        switch (what) {
            case 0:
                return sheet.width();
            case 1:
                return sheet.height();
            case 2:
                return sheet.lineCount();
            case 3:
                return sheet.greySum();
            case 4:
                return steps.side();
            case 5:
                return lattice.square();
            case 6:
                return lattice.pairCount();
            case 7:
                return backAndForth ? 1 : 0;
            default:
                return NONE;
        }
    }

    private static boolean isGrey(int grey) {
        return grey >= 0 && grey <= ALL_INK;
    }

    /** By CARRIED this looks up the last going over, so that one call goes over the picture once. */
    private boolean isInked(int way, int x, int y) {
        int grey = sheet.greyAt(x, y);
        if (sheet.isLine(x, y)) {
            return grey >= HALF_INK;
        }
        if (way == BY_CARRIED) {
            return carrier.hasInk(x, y);
        }
        return way == BY_TABLE ? steps.inks(grey, x, y) : lattice.inks(grey, x, y);
    }

    /** Modulo with an answer 0 .. divisor - 1. */
    private static int within(int value, int divisor) {
        return divisor < 1 ? 0 : Math.floorMod(value, divisor);
    }

    /** Of numbers not below 0; 64 rounds are more than any two ints need. */
    private static int commonDivisor(int one, int other) {
        int greater = one;
        int lesser = other;
        for (int round = 0; round < 64 && lesser > 0; round++) {
            int left = greater % lesser;
            greater = lesser;
            lesser = left;
        }
        return greater;
    }

    /** The PICTURE. Rows are kept MOST apart, whatever its width, so that a place's spot never moves. */
    private static final class Sheet {
        static final int MOST = 24;
        private static final int FIRST_SIDE = 8;

        private final int[] greys;
        private final boolean[] lines;
        private int width;
        private int height;

        Sheet() {
            greys = new int[MOST * MOST];
            lines = new boolean[MOST * MOST];
            width = FIRST_SIDE;
            height = FIRST_SIDE;
        }

        static boolean allows(int length) {
            return length >= 1 && length <= MOST;
        }

        static int spot(int x, int y) {
            return y * MOST + x;
        }

        void renew(int w, int h) {
            width = w;
            height = h;
            for (int i = 0; i < greys.length && i < lines.length; i++) {
                greys[i] = 0;
                lines[i] = false;
            }
        }

        int width() {
            return width;
        }

        int height() {
            return height;
        }

        boolean has(int x, int y) {
            return x >= 0 && x < width && y >= 0 && y < height;
        }

        /** Differences, not sums: a sum of two ints given may wrap around. */
        boolean hasBox(int x, int y, int w, int h) {
            return has(x, y) && w >= 1 && w <= width - x && h >= 1 && h <= height - y;
        }

        int greyAt(int x, int y) {
            return has(x, y) ? greys[spot(x, y)] : 0;
        }

        void setGrey(int x, int y, int grey) {
            if (has(x, y)) {
                greys[spot(x, y)] = grey;
            }
        }

        boolean isLine(int x, int y) {
            return has(x, y) && lines[spot(x, y)];
        }

        void setLine(int x, int y, boolean is) {
            if (has(x, y)) {
                lines[spot(x, y)] = is;
            }
        }

        int lineCount() {
            int found = 0;
            for (int i = 0; i < lines.length; i++) {
                if (lines[i]) {
                    found++;
                }
            }
            return found;
        }

        /** Spots outside the picture are 0, so they may be summed too. */
        int greySum() {
            int sum = 0;
            for (int i = 0; i < greys.length && i < lines.length; i++) {
                if (!lines[i]) {
                    sum += greys[i];
                }
            }
            return sum;
        }
    }

    /** The TABLE. */
    private static final class Steps {
        private static final int MOST = 8;
        private static final int NEARNESS = 1000;
        private static final int STRIDE = 2 * MOST - 1;
        private static final int CENTRE = (MOST - 1) * STRIDE + MOST - 1;

        private final int[] numbers;
        /** Of each place STRIDE times its row and its column: differences of two of these differ as steps do. */
        private final int[] spots;
        /** By the difference of two spots and CENTRE: EVENING asks for it too often to divide each time. */
        private final int[] nearness;
        private int side;

        Steps() {
            numbers = new int[MOST * MOST];
            spots = new int[MOST * MOST];
            nearness = new int[STRIDE * STRIDE];
            renew(1);
        }

        static boolean allows(int n) {
            return n >= 1 && n <= MOST;
        }

        void renew(int n) {
            side = n;
            for (int row = 0; row < n; row++) {
                for (int column = 0; column < n; column++) {
                    int place = row * n + column;
                    if (has(place)) {
                        numbers[place] = place;
                        spots[place] = row * STRIDE + column;
                    }
                }
            }
            for (int rows = 1 - n; rows < n; rows++) {
                for (int columns = 1 - n; columns < n; columns++) {
                    setNearness(CENTRE + rows * STRIDE + columns, Math.abs(columns), Math.abs(rows));
                }
            }
        }

        private void setNearness(int across, int columns, int rows) {
            int dx = Math.min(columns, side - columns);
            int dy = Math.min(rows, side - rows);
            int square = dx * dx + dy * dy;
            if (across >= 0 && across < nearness.length) {
                nearness[across] = square < 1 ? 0 : NEARNESS / square;
            }
        }

        private int nearnessAt(int across) {
            return across >= 0 && across < nearness.length ? nearness[across] : 0;
        }

        int side() {
            return side;
        }

        private int places() {
            return Math.min(side * side, Math.min(numbers.length, spots.length));
        }

        boolean has(int place) {
            return place >= 0 && place < places();
        }

        boolean hasPair(int one, int other) {
            return has(one) && has(other) && one != other;
        }

        int numberAt(int place) {
            return has(place) ? numbers[place] : 0;
        }

        void swap(int one, int other) {
            if (hasPair(one, other)) {
                int held = numbers[one];
                numbers[one] = numbers[other];
                numbers[other] = held;
            }
        }

        boolean inks(int grey, int x, int y) {
            int place = within(y, side) * side + within(x, side);
            return places() * grey > ALL_INK * numberAt(place);
        }

        long unevenness() {
            int places = places();
            long sum = 0;
            for (int other = 1; other < places; other++) {
                for (int one = 0; one < other; one++) {
                    int greater = Math.max(numbers[one], numbers[other]);
                    sum += (long) (places - greater) * nearnessAt(CENTRE + spots[one] - spots[other]);
                }
            }
            return sum;
        }

        /**
         * How much the cost falls by an exchange. Only pairs with a third place change. If its number is
         * above both, they stay as they are; else the cost of both pairs moves by what the greater number
         * of a pair rises, times what the one place is nearer to the third than the other.
         */
        long gain(int one, int other) {
            if (!hasPair(one, other)) {
                return 0;
            }
            int lesser = Math.min(numbers[one], numbers[other]);
            int greater = Math.max(numbers[one], numbers[other]);
            int fromOne = CENTRE + spots[one];
            int fromOther = CENTRE + spots[other];
            int places = places();
            long sum = 0;
            for (int third = 0; third < places; third++) {
                int number = numbers[third];
                if (number < greater && number != lesser) {
                    int rise = greater - Math.max(lesser, number);
                    int spot = spots[third];
                    sum += (long) rise * (nearnessAt(fromOne - spot) - nearnessAt(fromOther - spot));
                }
            }
            return numbers[one] == lesser ? sum : -sum;
        }

        /** Does the exchange that is worth most, the first of several; false if none is worth anything. */
        boolean swapBest() {
            int places = places();
            long most = 0;
            int bestOne = 0;
            int bestOther = 0;
            for (int one = 0; one < places; one++) {
                for (int other = one + 1; other < places; other++) {
                    long gained = gain(one, other);
                    if (gained > most) {
                        most = gained;
                        bestOne = one;
                        bestOther = other;
                    }
                }
            }
            swap(bestOne, bestOther);
            return most > 0;
        }
    }

    /** CARRIED: goes over a picture and keeps how much was LOST and, but for LINES, where the ink is. */
    private static final class Carrier {
        private static final int SHARES = 16;

        private final int[] here;
        private final int[] below;
        private final boolean[] inked;
        private int gone;

        Carrier() {
            here = new int[Sheet.MOST];
            below = new int[Sheet.MOST];
            inked = new boolean[Sheet.MOST * Sheet.MOST];
            gone = 0;
        }

        int gone() {
            return gone;
        }

        boolean hasInk(int x, int y) {
            int spot = Sheet.spot(x, y);
            return spot >= 0 && spot < inked.length && inked[spot];
        }

        void goOver(Sheet sheet, boolean backAndForth) {
            gone = 0;
            Arrays.fill(here, 0);
            for (int y = 0; y < sheet.height(); y++) {
                Arrays.fill(below, 0);
                boolean fromRight = backAndForth && y % 2 == 1;
                goOverRow(sheet, y, fromRight ? -1 : 1);
                System.arraycopy(below, 0, here, 0, Sheet.MOST);
            }
            // What the last row carried down has no row to come to.
            for (int x = 0; x < here.length; x++) {
                gone += here[x];
            }
        }

        private void goOverRow(Sheet sheet, int y, int step) {
            int last = sheet.width() - 1;
            for (int i = 0; i <= last; i++) {
                goOverPlace(sheet, step > 0 ? i : last - i, y, step);
            }
        }

        private void goOverPlace(Sheet sheet, int x, int y, int step) {
            int spot = Sheet.spot(x, y);
            if (x < 0 || x >= here.length || spot < 0 || spot >= inked.length) {
                return;
            }
            if (sheet.isLine(x, y)) {
                gone += here[x];
                return;
            }
            int all = sheet.greyAt(x, y) + here[x];
            inked[spot] = all >= HALF_INK;
            carryOn(inked[spot] ? all - ALL_INK : all, x, step, sheet.width());
        }

        private void carryOn(int miss, int x, int step, int width) {
            int toNext = Math.floorDiv(7 * miss, SHARES);
            int belowBefore = Math.floorDiv(3 * miss, SHARES);
            int straightBelow = Math.floorDiv(5 * miss, SHARES);
            int belowNext = miss - toNext - belowBefore - straightBelow;
            give(here, x + step, toNext, width);
            give(below, x - step, belowBefore, width);
            give(below, x, straightBelow, width);
            give(below, x + step, belowNext, width);
        }

        private void give(int[] row, int x, int share, int width) {
            if (x >= 0 && x < width && x < row.length) {
                row[x] += share;
            } else {
                gone += share;
            }
        }
    }

    /** The net, its RANKS and its BEATS. */
    private static final class Lattice {
        static final int MOST = 8;
        private static final int FIRST_A = 2;
        private static final int FIRST_B = 1;
        private static final int MOST_SQUARE = 2 * MOST * MOST;

        /** One key a pair (u, v), in rising order: a pair's RANK is where its key stands. */
        private final int[] keys;
        private int a;
        private int b;
        private int square;
        private int pairs;

        Lattice() {
            keys = new int[MOST_SQUARE];
            renew(FIRST_A, FIRST_B);
        }

        static boolean allows(int a, int b) {
            return a >= -MOST && a <= MOST && b >= -MOST && b <= MOST && (a != 0 || b != 0);
        }

        /**
         * Going down a column, (u, v) comes back after square / common places, and the columns' sets of
         * pairs come back after common columns: the box gone over has every pair that any place has.
         */
        void renew(int newA, int newB) {
            a = newA;
            b = newB;
            square = newA * newA + newB * newB;
            pairs = 0;
            int common = commonDivisor(Math.abs(newA), Math.abs(newB));
            int period = common < 1 ? 0 : square / common;
            for (int x = 0; x < common; x++) {
                for (int y = 0; y < period; y++) {
                    keep(keyAt(x, y));
                }
            }
        }

        int square() {
            return square;
        }

        int pairCount() {
            return pairs;
        }

        /** Orders pairs as RANKS do; u and v stay below MOST_SQUARE, so a key tells its pair. */
        private int keyAt(int x, int y) {
            int u = within(a * x + b * y, square);
            int v = within(a * y - b * x, square);
            int offU = 2 * u + 1 - square;
            int offV = 2 * v + 1 - square;
            return ((offU * offU + offV * offV) * MOST_SQUARE + u) * MOST_SQUARE + v;
        }

        /** Puts a key into its place in the order, unless it is there. */
        private void keep(int key) {
            int at = upTo(key);
            boolean known = at >= 0 && at < keys.length && keys[at] == key;
            if (known || pairs >= keys.length) {
                return;
            }
            for (int i = pairs; i > at + 1 && i >= 1; i--) {
                keys[i] = keys[i - 1];
            }
            if (at + 1 >= 0 && at + 1 < keys.length) {
                keys[at + 1] = key;
                pairs++;
            }
        }

        /** The last kept key's place that is not above this key; -1 if there is none. */
        private int upTo(int key) {
            int at = -1;
            for (int leap = MOST_SQUARE; leap > 0; leap /= 2) {
                int next = at + leap;
                if (next < pairs && next < keys.length && keys[next] <= key) {
                    at = next;
                }
            }
            return at;
        }

        int rankAt(int x, int y) {
            return upTo(keyAt(x, y));
        }

        boolean inks(int grey, int x, int y) {
            return pairs * grey > ALL_INK * rankAt(x, y);
        }

        /**
         * The BEAT's numerator over beatBelow, not in lowest terms. A net's step (a by m, b by m) has the
         * square 1 by m, so each of the four differences has the square (m + k - 2 t) by (m k), t being
         * a c + b d or a d - b c, or one of these turned round.
         */
        int beatAbove(int c, int d) {
            int along = Math.abs(a * c + b * d);
            int across = Math.abs(a * d - b * c);
            return square + c * c + d * d - 2 * Math.max(along, across);
        }

        int beatBelow(int c, int d) {
            return square * (c * c + d * d);
        }
    }
}
