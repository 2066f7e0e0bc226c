import java.util.NoSuchElementException;

/** Each promise of the document by answers worked out by hand: ordinary calls, edges, wrong inputs. */
public final class PromiseTests {
    private static final int LEAST = Integer.MIN_VALUE;
    private static final int MOST = Integer.MAX_VALUE;
    private static final int THROWN = -77777;

    private static int wrong = 0;

    private static void due(int promise, String call, long got, long want) {
        if (got != want) {
            wrong++;
            System.out.println("promise " + promise + ": " + call + " answered " + got + ", due is " + want);
        }
    }

    private static void due(int promise, String call, boolean got, boolean want) {
        due(promise, call, got ? 1 : 0, want ? 1 : 0);
    }

    private static long worth(DotPress press, int one, int other) {
        try {
            return press.worth(one, other);
        } catch (NoSuchElementException e) {
            return THROWN;
        }
    }

    public static void main(String[] args) {
        newObject();
        picture();
        shade();
        ramp();
        line();
        grey();
        table();
        exchangeAndNumber();
        cost();
        worth();
        even();
        back();
        net();
        dotByTable();
        dotByCarried();
        dotByGrown();
        dotsOfBoxes();
        read();
        lost();
        rank();
        beat();
        best();
        count();
        System.out.println(wrong == 0 ? "all promises stand" : wrong + " answers are wrong");
        if (wrong != 0) {
            System.exit(1);
        }
    }

    private static void newObject() {
        DotPress press = new DotPress();
        int[] counts = {8, 8, 0, 0, 1, 5, 5, 0};
        for (int what = 0; what < counts.length; what++) {
            due(1, "count(" + what + ")", press.count(what), counts[what]);
        }
        due(1, "grey(7, 7)", press.grey(7, 7), 0);
        due(1, "number(0)", press.number(0), 0);
        due(1, "number(1)", press.number(1), -1);
        for (int way = 0; way < 3; way++) {
            due(1, "dots of nothing by " + way, press.dots(way, 0, 0, 8, 8), 0);
        }
        due(1, "lost()", press.lost(), 0);
        due(1, "back(false)", press.back(false), false);
        due(1, "beat(2, 1, 0)", press.beat(2, 1, 0), 0);
        due(1, "NONE", DotPress.NONE, -1);
    }

    private static void picture() {
        DotPress press = new DotPress();
        press.shade(0, 0, 200);
        press.shade(7, 7, 9);
        press.line(1, 1, true);
        int[][] refused = {{0, 5}, {5, 0}, {25, 5}, {5, 25}, {-1, -1}, {LEAST, 1}, {1, MOST}};
        for (int[] size : refused) {
            due(2, "picture(" + size[0] + ", " + size[1] + ")", press.picture(size[0], size[1]), false);
        }
        due(2, "W after refusals", press.count(0), 8);
        due(2, "GREYS after refusals", press.count(3), 209);
        due(2, "LINES after refusals", press.count(2), 1);
        due(2, "picture(24, 1)", press.picture(24, 1), true);
        due(2, "picture(1, 24)", press.picture(1, 24), true);
        due(2, "grey(0, 23)", press.grey(0, 23), 0);
        due(2, "grey(1, 0)", press.grey(1, 0), -1);
        due(2, "picture(24, 24)", press.picture(24, 24), true);
        due(2, "GREYS are new", press.count(3), 0);
        due(2, "LINES are none", press.count(2), 0);
        due(2, "grey(0, 0)", press.grey(0, 0), 0);
        due(2, "grey(23, 23)", press.grey(23, 23), 0);
        press.table(3);
        press.exchange(0, 8);
        press.net(3, 1);
        press.back(true);
        press.picture(2, 3);
        due(2, "the TABLE stays", press.number(0), 8);
        due(2, "the net stays", press.count(5), 10);
        due(2, "BACK AND FORTH stays", press.count(7), 1);
        due(2, "H", press.count(1), 3);
    }

    private static void shade() {
        DotPress press = new DotPress();
        due(3, "shade(7, 0, 255)", press.shade(7, 0, 255), true);
        due(3, "shade(0, 7, 1)", press.shade(0, 7, 1), true);
        due(3, "shade(3, 3, 0)", press.shade(3, 3, 0), true);
        due(3, "grey(7, 0)", press.grey(7, 0), 255);
        due(3, "grey(0, 7)", press.grey(0, 7), 1);
        int[][] refused = {{8, 0, 1}, {0, 8, 1}, {-1, 0, 1}, {0, -1, 1}, {0, 0, 256}, {0, 0, -1},
            {MOST, MOST, 1}, {LEAST, LEAST, 1}, {1, 1, MOST}, {1, 1, LEAST}};
        for (int[] a : refused) {
            due(3, "refused shade", press.shade(a[0], a[1], a[2]), false);
        }
        due(3, "nothing changed", press.count(3), 256);
    }

    private static void ramp() {
        DotPress press = new DotPress();
        due(4, "ramp(2, 1, 3, 2, 10, 20)", press.ramp(2, 1, 3, 2, 10, 20), true);
        int[] rising = {0, 0, 10, 30, 50, 0, 0, 0};
        for (int x = 0; x < 8; x++) {
            due(4, "row 0", press.grey(x, 0), 0);
            due(4, "row 1", press.grey(x, 1), rising[x]);
            due(4, "row 2", press.grey(x, 2), rising[x]);
            due(4, "row 3", press.grey(x, 3), 0);
        }
        due(4, "by 255", press.ramp(0, 0, 8, 8, 0, 255), true);
        due(4, "by 255, first", press.grey(0, 7), 0);
        due(4, "by 255, second", press.grey(1, 7), 255);
        due(4, "by 255, last", press.grey(7, 7), 255);
        due(4, "by -255", press.ramp(0, 0, 2, 1, 255, -255), true);
        due(4, "by -255, first", press.grey(0, 0), 255);
        due(4, "by -255, second", press.grey(1, 0), 0);
        press.picture(8, 8);
        press.line(0, 0, true);
        due(4, "on a LINE", press.ramp(0, 0, 1, 1, 7, 0), true);
        due(4, "on a LINE", press.grey(0, 0), 7);
        int[][] refused = {{1, 0, 8, 1, 5, 0}, {0, 1, 1, 8, 5, 0}, {-1, 0, 2, 2, 5, 0}, {0, -1, 2, 2, 5, 0},
            {8, 0, 1, 1, 5, 0}, {0, 8, 1, 1, 5, 0}, {0, 0, 0, 1, 5, 0}, {0, 0, 1, 0, 5, 0}, {0, 0, 9, 1, 5, 0},
            {0, 0, 1, 1, -1, 0}, {0, 0, 1, 1, 256, 0}, {0, 0, 1, 1, 5, 256}, {0, 0, 1, 1, 5, -256},
            {1, 1, MOST, 1, 5, 0}, {1, 1, 1, MOST, 5, 0}, {1, 1, LEAST, LEAST, 5, 0}, {0, 0, 1, 1, 5, LEAST}};
        for (int[] a : refused) {
            due(4, "refused ramp", press.ramp(a[0], a[1], a[2], a[3], a[4], a[5]), false);
        }
        due(4, "nothing changed", press.grey(0, 0), 7);
        due(4, "nothing changed", press.count(3), 0);
    }

    private static void line() {
        DotPress press = new DotPress();
        due(5, "it is no LINE", press.line(3, 4, false), false);
        due(5, "line(3, 4, true)", press.line(3, 4, true), true);
        due(5, "it is so", press.line(3, 4, true), false);
        due(5, "one LINE", press.count(2), 1);
        due(5, "line(8, 0, true)", press.line(8, 0, true), false);
        due(5, "line(0, -1, true)", press.line(0, -1, true), false);
        due(5, "line(8, 0, false)", press.line(8, 0, false), false);
        due(5, "line(3, 4, false)", press.line(3, 4, false), true);
        due(5, "no LINE", press.count(2), 0);
        press.table(8);
        press.shade(0, 0, 127);
        due(5, "by TABLE as the number says", press.dot(0, 0, 0), 1);
        press.line(0, 0, true);
        for (int way = 0; way < 3; way++) {
            press.shade(0, 0, 127);
            due(5, "127 on a LINE by " + way, press.dot(way, 0, 0), 0);
            press.shade(0, 0, 128);
            due(5, "128 on a LINE by " + way, press.dot(way, 0, 0), 1);
        }
    }

    private static void grey() {
        DotPress press = new DotPress();
        press.picture(3, 2);
        press.shade(2, 1, 77);
        due(6, "grey(2, 1)", press.grey(2, 1), 77);
        due(6, "grey(1, 1)", press.grey(1, 1), 0);
        int[][] refused = {{3, 0}, {0, 2}, {-1, 0}, {0, -1}, {MOST, 0}, {0, LEAST}};
        for (int[] a : refused) {
            due(6, "no such PLACE", press.grey(a[0], a[1]), -1);
        }
    }

    private static void table() {
        DotPress press = new DotPress();
        for (int n = 1; n <= 8; n++) {
            due(7, "table(" + n + ")", press.table(n), true);
            due(7, "n", press.count(4), n);
            for (int place = 0; place < n * n; place++) {
                due(7, "number(" + place + ") of " + n, press.number(place), place);
            }
        }
        press.exchange(0, 63);
        due(7, "table(0)", press.table(0), false);
        due(7, "table(9)", press.table(9), false);
        due(7, "table(-1)", press.table(-1), false);
        due(7, "nothing changed", press.number(0), 63);
        due(7, "table(8)", press.table(8), true);
        due(7, "the numbers are new", press.number(0), 0);
    }

    private static void exchangeAndNumber() {
        DotPress press = new DotPress();
        due(8, "of one place", press.exchange(0, 0), false);
        press.table(3);
        due(8, "exchange(8, 0)", press.exchange(8, 0), true);
        due(9, "number(0)", press.number(0), 8);
        due(9, "number(8)", press.number(8), 0);
        due(9, "number(4)", press.number(4), 4);
        int[][] refused = {{0, 9}, {9, 0}, {-1, 0}, {0, -1}, {4, 4}, {9, 9}, {MOST, 0}, {0, LEAST}};
        for (int[] a : refused) {
            due(8, "refused exchange", press.exchange(a[0], a[1]), false);
        }
        due(9, "number(0) after refusals", press.number(0), 8);
        due(9, "number(9)", press.number(9), -1);
        due(9, "number(-1)", press.number(-1), -1);
        due(9, "number(MOST)", press.number(MOST), -1);
        due(9, "number(LEAST)", press.number(LEAST), -1);
    }

    private static void cost() {
        DotPress press = new DotPress();
        due(10, "of 1 by 1", press.cost(), 0);
        press.table(2);
        due(10, "of 2 by 2", press.cost(), 8500);
        // Of 3 by 3 every two places are 1 apart in a row or column (1,000), else by the square 2 (500).
        // The greater number g has g lesser ones: those of its row and column count double.
        press.table(3);
        long due = 0;
        int[] straight = {0, 1, 2, 1, 2, 3, 2, 3, 4};
        for (int g = 0; g < 9; g++) {
            due += (9 - g) * (1000L * straight[g] + 500L * (g - straight[g]));
        }
        due(10, "of 3 by 3", press.cost(), due);
        press.table(2);
        press.exchange(0, 2);
        due(10, "after an exchange", press.cost(), 8000);
    }

    private static void worth() {
        DotPress press = new DotPress();
        due(11, "of 1 by 1", worth(press, 0, 0), THROWN);
        press.table(2);
        due(11, "worth(1, 3)", worth(press, 1, 3), 500);
        due(11, "worth(3, 1)", worth(press, 3, 1), 500);
        due(11, "worth(2, 3)", worth(press, 2, 3), 0);
        int[][] refused = {{1, 1}, {0, 4}, {4, 0}, {-1, 0}, {0, -1}, {4, 4}, {MOST, LEAST}};
        for (int[] a : refused) {
            due(11, "no such places", worth(press, a[0], a[1]), THROWN);
        }
        due(11, "nothing changed", press.cost(), 8500);
        press.exchange(0, 2);
        due(11, "back again", worth(press, 0, 2), -500);
        for (int one = 0; one < 64; one += 7) {
            // An object is good for 512 calls alone.
            press = new DotPress();
            press.table(8);
            press.exchange(one, 63 - one);
            for (int other = 1; other < 64; other += 5) {
                if (one != other) {
                    long before = press.cost();
                    long told = worth(press, one, other);
                    press.exchange(one, other);
                    due(11, "as COST falls, " + one + " with " + other, told, before - press.cost());
                }
            }
        }
    }

    private static void even() {
        DotPress press = new DotPress();
        due(12, "of 1 by 1", press.even(100), 0);
        press.table(2);
        due(12, "even(0)", press.even(0), 0);
        due(12, "even(-1)", press.even(-1), -1);
        due(12, "even(101)", press.even(101), -1);
        due(12, "nothing changed", press.cost(), 8500);
        due(12, "even(100)", press.even(100), 1);
        int[] numbers = {2, 1, 0, 3};
        for (int place = 0; place < 4; place++) {
            due(12, "the first of two alike", press.number(place), numbers[place]);
        }
        due(12, "even enough", press.even(100), 0);
        for (int n = 6; n <= 8; n++) {
            press.table(n);
            due(12, "n " + n, press.even(1), -1);
            due(12, "n " + n + ", none", press.even(0), -1);
        }
        press.table(5);
        due(12, "at most 2", press.even(2), 2);
        int more = press.even(100);
        due(12, "n 5 goes on", more > 0, true);
        due(12, "n 5 ends", press.even(100), 0);
        for (int one = 0; one < 25; one++) {
            for (int other = 0; other < one; other++) {
                due(12, "nothing is worth more than 0", worth(press, one, other) > 0, false);
            }
        }
    }

    private static void back() {
        DotPress press = new DotPress();
        due(13, "back(false) at first", press.back(false), false);
        due(13, "back(true)", press.back(true), true);
        due(13, "back(true) again", press.back(true), false);
        due(13, "count(7)", press.count(7), 1);
        // Row 0: 100 at x 1 gives 18 down to x 0, 31 to x 1, and 43 on to x 2, which gives 8 down to x 1.
        // Row 1: x 0 has 118; from the right, x 1 comes before it and gives it 17 or more.
        press.picture(3, 2);
        press.shade(1, 0, 100);
        press.shade(0, 1, 100);
        due(13, "from the right x 0 gets on", press.dot(1, 0, 1), 1);
        due(13, "back(false)", press.back(false), true);
        due(13, "from the left it does not", press.dot(1, 0, 1), 0);
        due(13, "count(7)", press.count(7), 0);
        // Row 1 from the right: 100 at x 1 gives 43 on to x 0, and down 18 to x 2, 31 to x 1, 8 to x 0; x 0 gives
        // 8 down to x 1, 13 to x 0. Row 2 from the left: 21 gives 9 on, 48 gives 21 on: x 2 gets 18 and 21.
        press.back(true);
        press.picture(3, 3);
        press.shade(1, 1, 100);
        press.shade(2, 2, 89);
        due(13, "89 with 39 carried", press.dot(1, 2, 2), 1);
        press.shade(2, 2, 88);
        due(13, "88 with 39 carried", press.dot(1, 2, 2), 0);
    }

    private static void net() {
        DotPress press = new DotPress();
        int[][] refused = {{0, 0}, {9, 0}, {0, 9}, {-9, 1}, {1, -9}, {MOST, 0}, {LEAST, 1}, {65536, 65536}};
        for (int[] a : refused) {
            due(14, "refused net", press.net(a[0], a[1]), false);
        }
        due(14, "nothing changed", press.count(5), 5);
        due(14, "net(8, 8)", press.net(8, 8), true);
        due(14, "m", press.count(5), 128);
        due(14, "net(-8, -8)", press.net(-8, -8), true);
        due(14, "net(0, -8)", press.net(0, -8), true);
        due(14, "m", press.count(5), 64);
        due(14, "net(0, 1)", press.net(0, 1), true);
        due(14, "m", press.count(5), 1);
        due(14, "once more", press.net(0, 1), true);
    }

    private static void dotByTable() {
        DotPress press = new DotPress();
        press.table(2);
        // 4 times 63 is 252, not more than 255 times 1; 4 times 64 is.
        press.ramp(0, 0, 8, 8, 63, 0);
        due(15, "number 1, grey 63", press.dot(0, 1, 0), 0);
        due(15, "number 0, grey 63", press.dot(0, 2, 2), 1);
        press.ramp(0, 0, 8, 8, 64, 0);
        due(15, "number 1, grey 64", press.dot(0, 3, 4), 1);
        due(15, "number 2, grey 64", press.dot(0, 4, 3), 0);
        press.ramp(0, 0, 8, 8, 0, 0);
        due(15, "number 0, grey 0", press.dot(0, 0, 0), 0);
        press.ramp(0, 0, 8, 8, 255, 0);
        due(15, "number 3, grey 255", press.dot(0, 7, 7), 1);
        int[][] refused = {{-1, 0, 0}, {3, 0, 0}, {0, 8, 0}, {1, 0, 8}, {2, -1, 0}, {0, 0, -1}, {MOST, 0, 0}};
        for (int[] a : refused) {
            due(15, "refused dot", press.dot(a[0], a[1], a[2]), -1);
        }
    }

    private static void dotByCarried() {
        DotPress press = new DotPress();
        press.picture(1, 1);
        press.shade(0, 0, 127);
        due(15, "127", press.dot(1, 0, 0), 0);
        press.shade(0, 0, 128);
        due(15, "128", press.dot(1, 0, 0), 1);
        press.picture(2, 2);
        // 127 carries 55 on and 39 down; 73 becomes 128 there, and its miss -127 carries -24 to x 0, -40 to x 1.
        press.shade(0, 0, 127);
        press.shade(1, 0, 73);
        due(15, "128 with 55 carried", press.dot(1, 1, 0), 1);
        // (0, 1): 39 - 24 = 15 carried to it.
        press.shade(0, 1, 113);
        due(15, "113 with 15 carried", press.dot(1, 0, 1), 1);
        press.shade(0, 1, 112);
        due(15, "112 with 15 carried", press.dot(1, 0, 1), 0);
        // (1, 1): 10 left of 127 (127 - 55 - 23 - 39), -40 from above, floor(7 127 / 16) = 55 from the left.
        press.shade(1, 1, 103);
        due(15, "103 with 25 carried", press.dot(1, 1, 1), 1);
        press.shade(1, 1, 102);
        due(15, "102 with 25 carried", press.dot(1, 1, 1), 0);
        press.line(0, 0, true);
        due(15, "nothing is carried on from a LINE", press.dot(1, 1, 0), 0);
    }

    private static void dotByGrown() {
        DotPress press = new DotPress();
        // RANKS by 2 and 1 along row 0: 4, 2, 3, 0, 1. 5 times 102 is not more than 255 times 2.
        press.ramp(0, 0, 8, 8, 102, 0);
        due(15, "rank 2, grey 102", press.dot(2, 1, 0), 0);
        due(15, "rank 1, grey 102", press.dot(2, 4, 0), 1);
        press.ramp(0, 0, 8, 8, 103, 0);
        due(15, "rank 2, grey 103", press.dot(2, 1, 0), 1);
        due(15, "rank 3, grey 103", press.dot(2, 2, 0), 0);
        due(15, "rank 2, five on", press.dot(2, 6, 0), 1);
        press.ramp(0, 0, 8, 8, 0, 0);
        due(15, "rank 0, grey 0", press.dot(2, 3, 0), 0);
        press.ramp(0, 0, 8, 8, 255, 0);
        due(15, "rank 4, grey 255", press.dot(2, 0, 0), 1);
    }

    private static void dotsOfBoxes() {
        DotPress press = new DotPress();
        press.ramp(0, 0, 8, 8, 128, 0);
        press.table(4);
        due(16, "by TABLE, all", press.dots(0, 0, 0, 8, 8), 36);
        due(16, "by TABLE, a row", press.dots(0, 0, 2, 8, 1), 2);
        due(16, "by GROWN, 5 by 5", press.dots(2, 1, 2, 5, 5), 15);
        for (int way = 0; way < 3; way++) {
            int sum = 0;
            for (int y = 1; y < 6; y++) {
                for (int x = 2; x < 8; x++) {
                    sum += press.dot(way, x, y);
                }
            }
            due(16, "as its PLACES, by " + way, press.dots(way, 2, 1, 6, 5), sum);
            int[][] refused = {{0, 0, 9, 1}, {0, 0, 1, 9}, {-1, 0, 1, 1}, {0, -1, 1, 1}, {0, 0, 0, 1}, {0, 0, 1, 0},
                {8, 0, 1, 1}, {1, 1, MOST, MOST}, {LEAST, LEAST, LEAST, LEAST}, {7, 7, 2, 1}, {7, 7, 1, 2}};
            for (int[] a : refused) {
                due(16, "refused dots", press.dots(way, a[0], a[1], a[2], a[3]), -1);
                due(17, "refused read", press.read(way, a[0], a[1], a[2], a[3]), -1);
            }
        }
        due(16, "no such way", press.dots(3, 0, 0, 1, 1), -1);
        due(16, "no such way", press.dots(-1, 0, 0, 1, 1), -1);
        due(17, "no such way", press.read(3, 0, 0, 1, 1), -1);
        due(17, "no such way", press.read(-1, 0, 0, 1, 1), -1);
    }

    private static void read() {
        DotPress press = new DotPress();
        press.shade(0, 0, 255);
        due(17, "1 of 1", press.read(0, 0, 0, 1, 1), 255);
        due(17, "1 of 2, 127.5", press.read(0, 0, 0, 2, 1), 128);
        due(17, "1 of 4, 63.75", press.read(0, 0, 0, 2, 2), 64);
        due(17, "1 of 7, 36.43", press.read(0, 0, 0, 7, 1), 36);
        due(17, "1 of 6, 42.5", press.read(0, 0, 0, 3, 2), 43);
        due(17, "0 of 5", press.read(0, 1, 0, 5, 1), 0);
        press.picture(24, 24);
        press.ramp(0, 0, 24, 24, 255, 0);
        due(17, "576 of 576", press.read(1, 0, 0, 24, 24), 255);
    }

    private static void lost() {
        DotPress press = new DotPress();
        press.picture(1, 1);
        press.shade(0, 0, 100);
        due(18, "all of 100", press.lost(), 100);
        press.shade(0, 0, 200);
        due(18, "all of -55", press.lost(), -55);
        press.line(0, 0, true);
        due(18, "nothing from a LINE", press.lost(), 0);
        press.picture(2, 1);
        press.shade(0, 0, 100);
        press.line(1, 0, true);
        due(18, "what came to a LINE is lost too", press.lost(), 100);
        // Without dots no grey goes but out of the picture: 10 in all.
        press.picture(8, 8);
        press.shade(3, 3, 10);
        due(18, "10", press.lost(), 10);
        // Each dot takes 255 of what there is; nothing else goes anywhere.
        press.ramp(0, 0, 8, 8, 3, 31);
        for (int turn = 0; turn < 2; turn++) {
            due(18, "GREYS less 255 a DOT", press.lost(), press.count(3) - 255L * press.dots(1, 0, 0, 8, 8));
            press.back(true);
        }
    }

    private static void rank() {
        DotPress press = new DotPress();
        int[] row = {4, 2, 3, 0, 1};
        for (int x = 0; x <= 1000; x += 25) {
            for (int more = 0; more < 5 && x + more <= 1000; more++) {
                due(19, "rank(" + (x + more) + ", 0)", press.rank(x + more, 0), row[more]);
            }
        }
        due(19, "rank(1000, 1000)", press.rank(1000, 1000), 4);
        int[][] refused = {{-1, 0}, {0, -1}, {1001, 0}, {0, 1001}, {MOST, MOST}, {LEAST, 0}};
        for (int[] a : refused) {
            due(19, "refused rank", press.rank(a[0], a[1]), -1);
        }
        // By 1 and 1, m 2: (0, 0) and (1, 1) are alike far from the middle, so u decides.
        press.net(1, 1);
        due(19, "by 1 and 1, (0, 0)", press.rank(0, 0), 0);
        due(19, "by 1 and 1, (1, 0)", press.rank(1, 0), 1);
        due(19, "by 1 and 1, (0, 1)", press.rank(0, 1), 1);
        // By 2 and 0, m 4: u and v are 0 or 2; (2, 2) is 1 and 1 off, (0, 2) and (2, 0) 9 and 1, (0, 0) 9 and 9.
        press.net(2, 0);
        due(19, "by 2 and 0, (1, 1)", press.rank(1, 1), 0);
        due(19, "by 2 and 0, (0, 1)", press.rank(0, 1), 1);
        due(19, "by 2 and 0, (1, 0)", press.rank(1, 0), 2);
        due(19, "by 2 and 0, (0, 0)", press.rank(0, 0), 3);
        press.net(0, -1);
        due(19, "m 1", press.rank(999, 1000), 0);
    }

    private static void beat() {
        DotPress press = new DotPress();
        int[][] turned = {{2, 1}, {-1, 2}, {-2, -1}, {1, -2}};
        for (int[] a : turned) {
            due(20, "the net itself, turned", press.beat(a[0], a[1], 0), 0);
            due(20, "the net itself, turned", press.beat(a[0], a[1], 1), 1);
        }
        due(20, "with 1 and 2", press.beat(1, 2, 0), 2);
        due(20, "with 1 and 2", press.beat(1, 2, 1), 25);
        // (2/5, 1/5) less (1, 0): 9/25 and 1/25.
        due(20, "with 1 and 0", press.beat(1, 0, 0), 2);
        due(20, "with 1 and 0", press.beat(1, 0, 1), 5);
        // (2/5, 1/5) less (1/16, 1/16): (27/80, 11/80): 850/6400.
        due(20, "with 8 and 8", press.beat(8, 8, 0), 17);
        due(20, "with 8 and 8", press.beat(8, 8, 1), 128);
        int[][] refused = {{0, 0, 0}, {9, 0, 0}, {0, -9, 1}, {1, 1, 2}, {1, 1, -1}, {LEAST, 1, 0}, {1, MOST, 1}};
        for (int[] a : refused) {
            due(20, "refused beat", press.beat(a[0], a[1], a[2]), -1);
        }
    }

    private static void best() {
        DotPress press = new DotPress();
        due(21, "by 2 and 1", press.best(), 10);
        // By 1 and 0 the square is 1 + 1/k - 2 (the greater of c and d) / k: 49/64 with 8 and 0, 98/113 with
        // 8 and 7, 113/128 with 8 and 8.
        press.net(1, 0);
        due(21, "by 1 and 0", press.best(), 88);
        press.net(8, 8);
        due(21, "by 8 and 8", press.best(), 10);
        // By 2 and 0 the nets by 1 and 0 and by 1 and 1 both have 1/4, none has more.
        press.net(2, 0);
        due(21, "by 2 and 0, of two the lesser d", press.best(), 10);
    }

    private static void count() {
        DotPress press = new DotPress();
        press.picture(5, 6);
        press.shade(4, 5, 30);
        press.shade(0, 0, 12);
        press.line(0, 0, true);
        press.line(1, 0, true);
        press.table(7);
        press.net(-2, 4);
        press.back(true);
        int[] counts = {5, 6, 2, 30, 7, 20, 20, 1};
        for (int what = 0; what < counts.length; what++) {
            due(22, "count(" + what + ")", press.count(what), counts[what]);
        }
        int[] refused = {-1, 8, MOST, LEAST};
        for (int what : refused) {
            due(22, "count(" + what + ")", press.count(what), -1);
        }
    }
}
