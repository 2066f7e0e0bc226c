import java.lang.reflect.InvocationTargetException;
import java.lang.reflect.Method;
import java.util.ArrayList;
import java.util.Arrays;
import java.util.List;

/**
 * Each sentence of the document that names a bound, a refusal or a case that answers otherwise, as rows of
 * calls on a new object. A row "call = answer" tells what is due; a row "call ! answer" tells also that the
 * call changes nothing: an object with it and one without it are looked over and must be alike.
 */
public final class EdgeTests {
    private static final int MOST_CALLS = 512;
    private static final String THROWS = "throws NoSuchElementException";
    private static final String[] NOTHING = {};

    private static int wrong = 0;
    private static int rowsRun = 0;

    public static void main(String[] args) {
        mostCalls();
        newObject();
        sidesOfThePicture();
        places();
        greys();
        rampsBox();
        rampsValues();
        lines();
        tables();
        dotsByTable();
        exchanges();
        costs();
        worths();
        evenings();
        firstOfSeveralExchanges();
        backAndForth();
        sharesThatAreCarried();
        sharesThatGoBack();
        linesAndWhatIsCarried();
        whatIsLost();
        nets();
        ranks();
        dotsByGrown();
        waysAndPlaces();
        boxes();
        readings();
        beats();
        bests();
        counts();
        madeAnew();
        refusedInEachState();
        System.out.println(wrong == 0 ? rowsRun + " rows hold" : wrong + " of " + rowsRun + " rows do not hold");
        if (wrong != 0) {
            System.exit(1);
        }
    }

    // ---- What it is

    private static void mostCalls() {
        String sentence = "An object is used for at most 512 calls";
        String[] last = {"picture(3, 3) = 1", "picture(25, 1) = 0", "shade(1, 0, 7) = 1", "ramp(0, 0, 2, 1, 1, 1) = 1",
            "line(0, 0, true) = 1", "grey(1, 0) = 200", "table(8) = 1", "exchange(0, 3) = 1", "number(3) = 3",
            "cost() = 8500", "worth(1, 3) = 500", "worth(1, 1) = " + THROWS, "even(100) = 1", "back(true) = 1",
            "net(8, 8) = 1", "dot(1, 1, 0) = 1", "dots(1, 0, 0, 2, 1) = 1", "read(1, 0, 0, 2, 1) = 128",
            "lost() = 45", "rank(3, 0) = 0", "beat(1, 2, 1) = 25", "best() = 10", "count(3) = 300"};
        for (String call : last) {
            List<String> rows = new ArrayList<>(Arrays.asList(
                "picture(2, 1) = 1", "shade(0, 0, 100) = 1", "shade(1, 0, 200) = 1", "table(2) = 1"));
            while (rows.size() < MOST_CALLS - 1) {
                rows.add("grey(0, 0) = 100");
            }
            rows.add(call);
            holds(sentence, rows);
        }
        List<String> dear = new ArrayList<>();
        while (dear.size() < MOST_CALLS) {
            dear.add("table(5) = 1");
            dear.add("even(100) = 18");
        }
        holds(sentence, dear);
    }

    // ---- Promise 1

    private static void newObject() {
        holds("8 by 8", "count(0) = 8", "count(1) = 8", "grey(7, 7) = 0", "grey(8, 7) ! -1", "grey(7, 8) ! -1");
        List<String> all = new ArrayList<>();
        for (int place = 0; place < 64; place++) {
            all.add("grey(" + place % 8 + ", " + place / 8 + ") = 0");
        }
        all.add("count(2) = 0");
        all.add("count(3) = 0");
        for (int way = 0; way < 3; way++) {
            all.add("dots(" + way + ", 0, 0, 8, 8) = 0");
            all.add("read(" + way + ", 0, 0, 8, 8) = 0");
        }
        all.add("lost() = 0");
        holds("all 0", all);
        holds("the TABLE is 1 by 1", "count(4) = 1", "number(0) = 0", "number(1) ! -1", "cost() = 0");
        holds("not BACK AND FORTH", "count(7) = 0", "back(false) ! 0", "back(true) = 1");
        holds("the net is by 2 and 1", "count(5) = 5", "count(6) = 5", "beat(2, 1, 0) = 0", "beat(1, 2, 0) = 2",
            "rank(0, 0) = 4", "rank(1, 0) = 2", "rank(2, 0) = 3", "rank(3, 0) = 0", "rank(4, 0) = 1");
    }

    // ---- Promise 2 and the PICTURE's bounds

    private static void sidesOfThePicture() {
        holds("W 1 .. 24", "picture(1, 5) = 1", "count(0) = 1", "count(1) = 5", "picture(24, 5) = 1", "count(0) = 24",
            "grey(23, 4) = 0", "picture(0, 6) ! 0", "picture(25, 6) ! 0", "picture(-1, 6) ! 0", "picture(MIN, 6) ! 0",
            "picture(MAX, 6) ! 0", "count(0) = 24", "count(1) = 5");
        holds("H 1 .. 24", "picture(5, 1) = 1", "count(1) = 1", "count(0) = 5", "picture(5, 24) = 1", "count(1) = 24",
            "grey(4, 23) = 0", "picture(6, 0) ! 0", "picture(6, 25) ! 0", "picture(6, -1) ! 0", "picture(6, MIN) ! 0",
            "picture(6, MAX) ! 0", "count(0) = 5", "count(1) = 24");
        holds("both at once", "picture(1, 1) = 1", "picture(24, 24) = 1", "picture(0, 0) ! 0", "picture(25, 25) ! 0",
            "picture(0, 25) ! 0", "picture(25, 0) ! 0", "picture(24, 25) ! 0", "picture(25, 24) ! 0");
        holds("all 0, no LINES", "ramp(0, 0, 8, 8, 127, 0) = 1", "line(3, 3, true) = 1", "line(7, 7, true) = 1",
            "picture(8, 8) = 1", "count(2) = 0", "count(3) = 0", "grey(3, 3) = 0", "grey(7, 7) = 0",
            "shade(3, 3, 127) = 1", "dot(0, 3, 3) = 1", "line(3, 3, false) ! 0");
        holds("all 0, where an earlier one was greater", "picture(24, 24) = 1", "shade(23, 23, 9) = 1",
            "line(23, 22, true) = 1", "picture(8, 8) = 1", "grey(23, 23) ! -1", "count(2) = 0", "count(3) = 0",
            "picture(24, 24) = 1", "grey(23, 23) = 0", "count(2) = 0", "count(3) = 0", "line(23, 22, false) ! 0");
        holds("only the PICTURE is new", "table(3) = 1", "exchange(0, 8) = 1", "net(3, 1) = 1", "back(true) = 1",
            "picture(1, 1) = 1", "count(4) = 3", "number(0) = 8", "count(5) = 10", "count(7) = 1");
        holds("refused with GREYS and LINES in it", "shade(0, 0, 200) = 1", "line(7, 7, true) = 1",
            "picture(0, 8) ! 0", "picture(8, 25) ! 0", "grey(0, 0) = 200", "count(2) = 1");
    }

    // ---- Promises 3, 5 and 6 and the bounds of PLACES and GREYS

    private static void places() {
        int[][] sizes = {{8, 8}, {5, 3}, {3, 5}, {1, 1}, {24, 24}, {24, 1}, {1, 24}};
        for (int[] size : sizes) {
            int w = size[0];
            int h = size[1];
            String sentence = "x 0 .. W - 1, y 0 .. H - 1 in " + w + " by " + h;
            String start = "picture(" + w + ", " + h + ") = 1";
            String last = (w - 1) + ", " + (h - 1);
            holds(sentence, start, "shade(0, 0, 3) = 1", "grey(0, 0) = 3", "shade(" + last + ", 5) = 1",
                "grey(" + last + ") = 5", "line(" + last + ", true) = 1", "line(" + last + ", false) = 1");
            String[] outside = {"-1, 0", "0, -1", w + ", 0", "0, " + h, w + ", " + (h - 1), (w - 1) + ", " + h,
                "-1, " + (h - 1), (w - 1) + ", -1", "MIN, 0", "0, MIN", "MAX, 0", "0, MAX", "MAX, MAX", "MIN, MIN",
                "-24, 1", "24, 24", "0, 178956971"};
            for (String place : outside) {
                holds(sentence, start, "shade(0, 0, 3) = 1", "shade(" + place + ", 9) ! 0",
                    "grey(" + place + ") ! -1", "line(" + place + ", true) ! 0", "line(" + place + ", false) ! 0");
            }
        }
        holds("each PLACE has a GREY of its own", "picture(2, 2) = 1", "shade(0, 0, 1) = 1", "shade(1, 0, 2) = 1",
            "shade(0, 1, 3) = 1", "shade(1, 1, 4) = 1", "grey(0, 0) = 1", "grey(1, 0) = 2", "grey(0, 1) = 3",
            "grey(1, 1) = 4", "count(3) = 10");
    }

    private static void greys() {
        holds("GREYS 0 .. 255", "shade(2, 5, 255) = 1", "grey(2, 5) = 255", "shade(2, 5, 256) ! 0",
            "shade(2, 5, -1) ! 0", "shade(2, 5, MAX) ! 0", "shade(2, 5, MIN) ! 0", "grey(2, 5) = 255",
            "shade(2, 5, 0) = 1", "grey(2, 5) = 0", "shade(2, 5, 0) = 1", "shade(2, 5, -1) ! 0", "grey(2, 5) = 0");
        holds("no such PLACE and out of bounds", "shade(8, 8, 256) ! 0", "shade(-1, -1, -1) ! 0");
    }

    // ---- Promise 4

    private static void rampsBox() {
        holds("a box within the PICTURE", "ramp(0, 0, 8, 8, 1, 0) = 1", "count(3) = 64", "ramp(7, 7, 1, 1, 9, 0) = 1",
            "grey(7, 7) = 9", "ramp(6, 0, 2, 1, 5, 0) = 1", "grey(5, 0) = 1", "grey(6, 0) = 5", "grey(7, 0) = 5",
            "grey(0, 1) = 1", "ramp(0, 6, 1, 2, 7, 0) = 1", "grey(0, 5) = 1", "grey(0, 6) = 7", "grey(0, 7) = 7",
            "grey(1, 6) = 1", "ramp(0, 0, 1, 1, 3, 0) = 1", "grey(0, 0) = 3", "grey(1, 0) = 1", "grey(0, 1) = 1");
        holds("a box within the greatest PICTURE", "picture(24, 24) = 1", "ramp(0, 0, 24, 24, 1, 0) = 1",
            "count(3) = 576", "ramp(23, 23, 1, 1, 9, 0) = 1", "ramp(0, 0, 25, 1, 2, 0) ! 0",
            "ramp(0, 0, 1, 25, 2, 0) ! 0", "ramp(23, 0, 2, 1, 2, 0) ! 0", "ramp(0, 23, 1, 2, 2, 0) ! 0");
        refusedBoxes("it is not within the PICTURE", "ramp(", ", 5, 0) ! 0");
    }

    /** Every box that promises 4, 16 and 17 refuse in a PICTURE of 6 by 4, with a full one beside each. */
    private static void refusedBoxes(String sentence, String head, String tail) {
        String[] boxes = {"1, 0, 6, 1", "0, 0, 7, 1", "5, 3, 2, 1", "6, 0, 1, 1", "-1, 0, 1, 1", "-1, 0, 2, 1",
            "0, 1, 1, 4", "0, 0, 1, 5", "5, 3, 1, 2", "0, 4, 1, 1", "0, -1, 1, 1", "0, -1, 1, 2",
            "0, 0, 0, 1", "0, 0, 1, 0", "0, 0, 0, 0", "0, 0, -1, 1", "0, 0, 1, -1", "3, 3, -1, -1", "6, 4, 0, 0",
            "6, 0, -1, 1", "0, 4, 1, -1", "6, 4, 1, 1", "1, 1, MAX, 1", "1, 1, 1, MAX", "MAX, 1, 1, 1",
            "1, MAX, 1, 1", "MAX, 0, MAX, 1", "0, MAX, 1, MAX", "MIN, 0, MIN, 1", "0, MIN, 1, MIN", "0, 0, MIN, 1",
            "0, 0, 1, MIN", "MIN, 0, MAX, 1", "0, MIN, 1, MAX", "MIN, 0, 1, 1", "0, MIN, 1, 1", "5, 3, MAX, MAX"};
        for (String box : boxes) {
            holds(sentence, "picture(6, 4) = 1", "ramp(0, 0, 6, 4, 200, -9) = 1", head + box + tail);
        }
    }

    private static void rampsValues() {
        holds("step more with each column from its first one on", "ramp(3, 2, 4, 3, 10, 20) = 1", "grey(2, 2) = 0",
            "grey(3, 2) = 10", "grey(4, 2) = 30", "grey(5, 2) = 50", "grey(6, 2) = 70", "grey(7, 2) = 0",
            "grey(3, 4) = 10", "grey(6, 4) = 70", "grey(3, 1) = 0", "grey(3, 5) = 0", "count(3) = 480");
        holds("not above 255", "ramp(0, 0, 3, 1, 245, 5) = 1", "grey(1, 0) = 250", "grey(2, 0) = 255",
            "ramp(0, 1, 3, 1, 246, 5) = 1", "grey(1, 1) = 251", "grey(2, 1) = 255", "ramp(0, 2, 3, 1, 255, 255) = 1",
            "grey(0, 2) = 255", "grey(2, 2) = 255");
        holds("not below 0", "ramp(0, 0, 3, 1, 10, -5) = 1", "grey(1, 0) = 5", "grey(2, 0) = 0",
            "ramp(0, 1, 3, 1, 9, -5) = 1", "grey(1, 1) = 4", "grey(2, 1) = 0", "ramp(0, 2, 3, 1, 0, -255) = 1",
            "grey(0, 2) = 0", "grey(2, 2) = 0");
        holds("step -255 .. 255", "picture(24, 1) = 1", "ramp(0, 0, 24, 1, 0, 255) = 1", "grey(0, 0) = 0",
            "grey(1, 0) = 255", "grey(23, 0) = 255", "ramp(0, 0, 24, 1, 0, 256) ! 0", "ramp(0, 0, 24, 1, 0, MAX) ! 0",
            "ramp(0, 0, 24, 1, 255, -255) = 1", "grey(0, 0) = 255", "grey(1, 0) = 0", "grey(23, 0) = 0",
            "ramp(0, 0, 24, 1, 255, -256) ! 0", "ramp(0, 0, 24, 1, 255, MIN) ! 0", "ramp(0, 0, 1, 1, 7, 256) ! 0");
        holds("grey out of bounds", "ramp(1, 1, 2, 2, 0, 1) = 1", "ramp(1, 1, 2, 2, 255, -1) = 1",
            "ramp(1, 1, 2, 2, -1, 1) ! 0", "ramp(1, 1, 2, 2, 256, -1) ! 0", "ramp(1, 1, 2, 2, MIN, 0) ! 0",
            "ramp(1, 1, 2, 2, MAX, 0) ! 0", "grey(1, 1) = 255", "grey(2, 2) = 254");
        holds("LINES stay LINES", "line(1, 1, true) = 1", "ramp(0, 0, 8, 8, 3, 0) = 1", "grey(1, 1) = 3",
            "count(2) = 1", "count(3) = 189", "line(1, 1, true) ! 0");
    }

    // ---- Promise 5

    private static void lines() {
        holds("it is so", "line(3, 4, false) ! 0", "line(3, 4, true) = 1", "line(3, 4, true) ! 0", "count(2) = 1",
            "line(3, 4, false) = 1", "line(3, 4, false) ! 0", "count(2) = 0", "line(4, 3, false) ! 0");
        holds("only LINE, not GREY", "shade(3, 4, 77) = 1", "line(3, 4, true) = 1", "grey(3, 4) = 77", "count(3) = 0",
            "shade(3, 4, 78) = 1", "count(2) = 1", "line(3, 4, false) = 1", "grey(3, 4) = 78", "count(3) = 78");
        for (int way = 0; way < 3; way++) {
            leastInked("a LINE PLACE has a DOT if its GREY is 128 or more, by " + way, way, 0, 0, 128,
                "table(8) = 1", "line(0, 0, true) = 1");
            leastInked("so too where the number and the RANK are great, by " + way, way, 5, 5, 128, "table(6) = 1",
                "line(5, 5, true) = 1");
            leastInked("so too on the last PLACE, by " + way, way, 23, 23, 128, "picture(24, 24) = 1",
                "line(23, 23, true) = 1");
        }
    }

    // ---- Promises 7 to 9 and the TABLE

    private static void tables() {
        holds("n 1 .. 8", "table(8) = 1", "count(4) = 8", "exchange(0, 63) = 1", "table(9) ! 0", "table(0) ! 0",
            "table(-1) ! 0", "table(MAX) ! 0", "table(MIN) ! 0", "table(65537) ! 0", "count(4) = 8", "number(0) = 63",
            "table(1) = 1", "count(4) = 1", "table(0) ! 0", "count(4) = 1");
        for (int n = 1; n <= 8; n++) {
            List<String> rows = new ArrayList<>();
            rows.add("table(8) = 1");
            rows.add("exchange(0, 1) = 1");
            rows.add("table(" + n + ") = 1");
            for (int place = 0; place < n * n; place++) {
                rows.add("number(" + place + ") = " + place);
            }
            rows.add("number(" + n * n + ") ! -1");
            rows.add("number(-1) ! -1");
            rows.add("number(MAX) ! -1");
            rows.add("number(MIN) ! -1");
            holds("its numbers row by row 0, 1, .., of " + n, rows);
        }
        holds("the same n anew", "table(2) = 1", "exchange(0, 3) = 1", "table(2) = 1", "number(0) = 0",
            "number(3) = 3");
    }

    private static void exchanges() {
        for (int n = 1; n <= 8; n++) {
            int after = n * n;
            int last = after - 1;
            String start = "table(" + n + ") = 1";
            if (n > 1) {
                holds("0 .. n n - 1", start, "exchange(0, " + last + ") = 1", "number(0) = " + last,
                    "number(" + last + ") = 0", "exchange(" + last + ", 0) = 1", "number(0) = 0");
            }
            String[] none = {"0, " + after, after + ", 0", "-1, 0", "0, -1", after + ", " + last, last + ", " + after,
                "-1, " + after, "MIN, 0", "0, MAX", "MAX, MIN", "1000000, 0"};
            String[] alike = {"0, 0", last + ", " + last, after + ", " + after, "-1, -1", "MAX, MAX", "MIN, MIN"};
            for (String pair : none) {
                holds("no such ones, n " + n, start, "exchange(" + pair + ") ! 0");
                holds("no such places, n " + n, start, "worth(" + pair + ") ! " + THROWS);
            }
            for (String pair : alike) {
                holds("alike, n " + n, start, "exchange(" + pair + ") ! 0");
                holds("alike, n " + n, start, "worth(" + pair + ") ! " + THROWS);
            }
        }
        holds("places of a greater TABLE before", "table(8) = 1", "table(2) = 1", "exchange(0, 4) ! 0",
            "number(4) ! -1", "worth(0, 4) ! " + THROWS, "exchange(3, 0) = 1", "number(3) = 0");
        holds("two change, the others stay", "table(2) = 1", "exchange(1, 2) = 1", "number(0) = 0", "number(1) = 2",
            "number(2) = 1", "number(3) = 3");
    }

    /** 255 times the number is met by a GREY of 85 or 170 (n 3, 6) and of 51 (n 5): that is not more. */
    private static void dotsByTable() {
        String sentence = "a DOT if n n times its GREY is more than 255 times the number";
        leastInked(sentence, 0, 0, 0, 1, NOTHING);
        leastInked(sentence, 0, 7, 7, 1, NOTHING);
        leastInked(sentence, 0, 1, 0, 64, "table(2) = 1");
        leastInked(sentence, 0, 1, 1, 192, "table(2) = 1");
        leastInked(sentence, 0, 0, 1, 86, "table(3) = 1");
        leastInked(sentence, 0, 0, 2, 171, "table(3) = 1");
        leastInked(sentence, 0, 0, 1, 52, "table(5) = 1");
        leastInked(sentence, 0, 0, 4, 205, "table(5) = 1");
        leastInked(sentence, 0, 0, 2, 86, "table(6) = 1");
        leastInked(sentence, 0, 6, 6, 250, "table(7) = 1");
        leastInked(sentence, 0, 7, 7, 252, "table(8) = 1");
        leastInked(sentence, 0, 0, 0, 252, "table(8) = 1", "exchange(0, 63) = 1");
        String round = "column x modulo n, row y modulo n";
        leastInked(round, 0, 4, 0, 41, "table(5) = 1");
        leastInked(round, 0, 5, 0, 1, "table(5) = 1");
        leastInked(round, 0, 0, 5, 1, "table(5) = 1");
        leastInked(round, 0, 6, 5, 11, "table(5) = 1");
        leastInked(round, 0, 5, 6, 52, "table(5) = 1");
        leastInked(round, 0, 23, 23, 184, "picture(24, 24) = 1", "table(5) = 1");
        leastInked(round, 0, 5, 5, 245, "table(5) = 1", "exchange(0, 24) = 1");
        leastInked(round, 0, 7, 5, 1, "table(1) = 1");
    }

    // ---- Promises 10 to 12

    /** By 2: 3 (1,000) and 2 (1,000 + 500) and 1 (500 + 1,000 + 1,000). From 3 on the rims count, from 6 on the cut. */
    private static void costs() {
        long[] due = {0, 8500, 93000, 360500, 1076250, 2496972, 5157222, 9473704};
        for (int n = 1; n <= due.length; n++) {
            holds("COST of a new TABLE by " + n, "table(" + n + ") = 1", "cost() ! " + due[n - 1]);
        }
        holds("COST of 2 by 2 with 0 and 1 across", "table(2) = 1", "exchange(1, 3) = 1", "cost() = 8000");
    }

    private static void worths() {
        holds("as much as COST falls", "table(2) = 1", "worth(1, 3) ! 500", "worth(3, 1) ! 500", "worth(0, 2) ! 500",
            "worth(0, 1) ! 0", "worth(2, 3) ! 0", "cost() = 8500", "exchange(1, 3) = 1", "cost() = 8000",
            "worth(1, 3) ! -500", "worth(0, 1) ! -500");
        // The first and the last place are next to one another round both rims (dx 1, dy 1).
        int[] sides = {3, 4, 5, 6, 7, 8};
        for (int n : sides) {
            int last = n * n - 1;
            int[][] pairs = {{0, last}, {0, n - 1}, {0, last - n + 1}, {1, last}, {n / 2, last - n / 2}, {last - 1, last}};
            for (int[] pair : pairs) {
                asCostFalls(n, pair[0], pair[1]);
            }
        }
    }

    private static void asCostFalls(int n, int one, int other) {
        Counted press = new Counted();
        press.take("table(" + n + ")");
        long before = Long.parseLong(press.take("cost()"));
        String told = press.take("worth(" + one + ", " + other + ")");
        press.take("exchange(" + one + ", " + other + ")");
        long after = Long.parseLong(press.take("cost()"));
        due("as much as COST falls", n + " by " + n + ", worth(" + one + ", " + other + ")", told, "" + (before - after));
    }

    private static void evenings() {
        holds("0 .. 100", "table(2) = 1", "even(-1) ! -1", "even(101) ! -1", "even(MIN) ! -1", "even(MAX) ! -1",
            "even(0) ! 0", "even(100) = 1", "even(-1) ! -1", "even(101) ! -1");
        holds("n is above 5", "table(5) = 1", "even(0) ! 0", "even(1) = 1", "table(6) = 1", "even(0) ! -1",
            "even(1) ! -1", "even(100) ! -1", "even(101) ! -1", "table(7) = 1", "even(1) ! -1", "table(8) = 1",
            "even(1) ! -1", "table(4) = 1", "even(1) = 1");
        holds("1 by 1 has no EXCHANGE", "even(0) ! 0", "even(1) ! 0", "even(100) ! 0");
        holds("at most so many, one of 18", "table(5) = 1", "even(1) = 1", "number(5) = 19", "number(19) = 5",
            "number(2) = 2", "even(100) = 17", "even(100) ! 0");
        holds("at most so many, all but one", "table(5) = 1", "even(17) = 17", "even(2) = 1", "even(1) ! 0");
        holds("at most so many, as many as there are", "table(5) = 1", "even(18) = 18", "even(1) ! 0");
        holds("at most so many, one more", "table(5) = 1", "even(19) = 18", "even(1) ! 0");
        holds("as long as it is worth more than 0", "table(2) = 1", "even(100) = 1", "worth(0, 3) ! 0",
            "worth(1, 2) ! 0", "worth(0, 1) ! -500", "even(100) ! 0");
        evened(3, 3, 87000, 3, 7, 2, 0, 4, 8, 6, 1, 5);
        evened(4, 8, 314800, 0, 13, 2, 15, 8, 5, 10, 7, 3, 14, 1, 12, 11, 6, 9, 4);
        evened(5, 18, 935000, 14, 4, 19, 13, 2, 18, 11, 6, 22, 9, 0, 23, 12, 3, 20, 16, 7, 17, 15, 5, 8, 21, 1, 10, 24);
    }

    private static void evened(int n, int done, long cost, int... numbers) {
        List<String> rows = new ArrayList<>();
        rows.add("table(" + n + ") = 1");
        rows.add("even(100) = " + done);
        rows.add("cost() = " + cost);
        for (int place = 0; place < numbers.length; place++) {
            rows.add("number(" + place + ") = " + numbers[place]);
        }
        holds("EVENING of a new TABLE by " + n, rows);
    }

    private static void firstOfSeveralExchanges() {
        String first = "of several the one whose first place comes first";
        holds(first + ": (0, 2) before (1, 3)", "table(2) = 1", "worth(0, 2) = 500", "worth(1, 3) = 500",
            "even(1) = 1", "number(0) = 2", "number(1) = 1", "number(2) = 0", "number(3) = 3");
        holds(first + ": (1, 13) before (2, 14)", "table(4) = 1", "worth(1, 13) = 17200", "worth(2, 14) = 17200",
            "even(1) = 1", "number(1) = 13", "number(13) = 1", "number(2) = 2");
        holds(first + ": (0, 8) before (1, 7)", "table(3) = 1", "exchange(2, 4) = 1", "worth(0, 8) = 4000",
            "worth(1, 7) = 4000", "worth(1, 8) = 4000", "even(1) = 1", "number(0) = 8", "number(8) = 0",
            "number(1) = 1", "number(7) = 7");
        String second = "then the second";
        holds(second + ": (0, 7) before (0, 8)", "table(3) = 1", "exchange(1, 3) = 1", "worth(0, 7) = 4000",
            "worth(0, 8) = 4000", "worth(2, 8) = 4000", "even(1) = 1", "number(0) = 7", "number(7) = 0",
            "number(8) = 8");
        holds(second + ": (0, 1) before (0, 7)", "table(3) = 1", "exchange(1, 6) = 1", "worth(0, 1) = 3000",
            "worth(0, 7) = 3000", "worth(6, 7) = 3000", "even(1) = 1", "number(0) = 6", "number(1) = 0",
            "number(7) = 7");
        holds("the one that is worth most, though another comes first", "table(3) = 1", "worth(0, 6) = 4500",
            "worth(1, 7) = 5000", "even(1) = 1", "number(1) = 7", "number(0) = 0");
    }

    // ---- Promise 13 and the way CARRIED

    private static void backAndForth() {
        holds("it is so", "back(false) ! 0", "back(true) = 1", "count(7) = 1", "back(true) ! 0", "count(7) = 1",
            "back(false) = 1", "count(7) = 0", "back(false) ! 0");
        // 127 gives 55 to the next PLACE: 73 there is the least with a DOT. Without it 128 is.
        int[] heights = {1, 2, 3, 4, 23, 24};
        for (int h : heights) {
            int y = h - 1;
            String size = "picture(2, " + h + ") = 1";
            String left = "shade(0, " + y + ", 127) = 1";
            String right = "shade(1, " + y + ", 127) = 1";
            boolean turned = y % 2 == 1;
            String sentence = "in every second row, from the second on, from the right: row " + y;
            leastInked("in a row from the left: row " + y, 1, 1, y, 73, size, left);
            leastInked("in a row from the left: row " + y, 1, 0, y, 128, size, right);
            leastInked(sentence, 1, 1, y, turned ? 128 : 73, size, left, "back(true) = 1");
            leastInked(sentence, 1, 0, y, turned ? 73 : 128, size, right, "back(true) = 1");
        }
    }

    private static void sharesThatAreCarried() {
        leastInked("a DOT is made if that is 128 or more", 1, 0, 0, 128, "picture(1, 1) = 1");
        leastInked("a DOT is made if that is 128 or more", 1, 0, 0, 128, NOTHING);
        leastInked("row by row from above", 1, 0, 0, 128, "picture(1, 2) = 1", "shade(0, 1, 127) = 1");
        leastInked("row by row from above", 1, 0, 0, 128, "picture(2, 2) = 1", "ramp(0, 1, 2, 1, 100, 0) = 1",
            "back(true) = 1");
        // GREY, then the least GREY with a DOT at the PLACE that gets seven, three, five sixteenths and the rest.
        int[][] shares = {
            {0, 128, 128, 128, 128}, {1, 128, 128, 128, 127}, {2, 128, 128, 128, 126}, {3, 127, 128, 128, 126},
            {10, 124, 127, 125, 126}, {15, 122, 126, 124, 125}, {16, 121, 125, 123, 127}, {127, 73, 105, 89, 118},
            {128, 184, 152, 168, 135}, {239, 135, 131, 133, 129}, {240, 135, 131, 133, 128}, {252, 130, 129, 129, 127},
            {253, 129, 129, 129, 127}, {254, 129, 129, 129, 126}, {255, 128, 128, 128, 128}};
        for (int[] share : shares) {
            String from = "of a MISS by GREY " + share[0];
            leastInked(from + " seven sixteenths to the next", 1, 1, 0, share[1], "picture(2, 1) = 1",
                "shade(0, 0, " + share[0] + ") = 1");
            leastInked(from + " three to the one below the one before", 1, 0, 1, share[2], "picture(2, 2) = 1",
                "shade(1, 0, " + share[0] + ") = 1");
            leastInked(from + " five to the one below", 1, 0, 1, share[3], "picture(1, 2) = 1",
                "shade(0, 0, " + share[0] + ") = 1");
            leastInked(from + " what is left to the one below the next", 1, 1, 1, share[4], "picture(2, 2) = 1",
                "line(1, 0, true) = 1", "line(0, 1, true) = 1", "shade(0, 0, " + share[0] + ") = 1");
        }
        // 127 and 127: the second is 182 with what came, so -73 is missed, and -32 go on to the third.
        leastInked("the MISS is that less 255", 1, 2, 0, 160, "picture(3, 1) = 1", "ramp(0, 0, 2, 1, 127, 0) = 1");
        // 127 and 0: the second is 55 without a DOT, and 24 go on to the third.
        leastInked("the MISS is that, if there is none", 1, 2, 0, 104, "picture(3, 1) = 1", "shade(0, 0, 127) = 1");
        // 128 and 0: the second is -56, and -25 (24.5 cut down) go on to the third.
        leastInked("the MISS may be below 0 without a DOT", 1, 2, 0, 153, "picture(3, 1) = 1", "shade(0, 0, 128) = 1");
        // 127 and 255: the second is 310, and 55 are missed; 24 go on to the third.
        leastInked("the MISS may be above 0 with a DOT", 1, 2, 0, 104, "picture(3, 1) = 1", "shade(0, 0, 127) = 1",
            "shade(1, 0, 255) = 1");
    }

    private static void sharesThatGoBack() {
        int[][] shares = {{16, 121, 125, 123, 127}, {15, 122, 126, 124, 125}, {128, 184, 152, 168, 135},
            {254, 129, 129, 129, 126}};
        for (int[] share : shares) {
            String from = "from the right, of a MISS by GREY " + share[0];
            leastInked(from + " seven sixteenths to the next", 1, 0, 1, share[1], "picture(2, 2) = 1",
                "back(true) = 1", "shade(1, 1, " + share[0] + ") = 1");
            leastInked(from + " three to the one below the one before", 1, 1, 2, share[2], "picture(2, 3) = 1",
                "back(true) = 1", "line(0, 2, true) = 1", "shade(0, 1, " + share[0] + ") = 1");
            leastInked(from + " five to the one below", 1, 0, 2, share[3], "picture(1, 3) = 1", "back(true) = 1",
                "shade(0, 1, " + share[0] + ") = 1");
            leastInked(from + " what is left to the one below the next", 1, 0, 2, share[4], "picture(2, 3) = 1",
                "back(true) = 1", "line(0, 1, true) = 1", "shade(1, 1, " + share[0] + ") = 1");
        }
    }

    private static void linesAndWhatIsCarried() {
        String on = "by CARRIED nothing is carried on from it";
        int[] greys = {0, 127, 128, 255};
        for (int grey : greys) {
            String line = "shade(1, 0, " + grey + ") = 1";
            leastInked(on, 1, 2, 0, 128, "picture(3, 2) = 1", "line(1, 0, true) = 1", line);
            leastInked(on, 1, 0, 1, 128, "picture(3, 2) = 1", "line(1, 0, true) = 1", line);
            leastInked(on, 1, 1, 1, 128, "picture(3, 2) = 1", "line(1, 0, true) = 1", line);
            leastInked(on, 1, 2, 1, 128, "picture(3, 2) = 1", "line(1, 0, true) = 1", line);
            holds(on, "picture(3, 2) = 1", "line(1, 0, true) = 1", line, "lost() = 0");
        }
        leastInked("what came to it is not its own", 1, 1, 0, 128, "picture(3, 1) = 1", "line(1, 0, true) = 1",
            "shade(0, 0, 127) = 1");
        leastInked("what came to it is not its own", 1, 1, 0, 128, "picture(3, 1) = 1", "line(1, 0, true) = 1",
            "shade(0, 0, 128) = 1");
        leastInked("what came to it does not go on", 1, 2, 0, 128, "picture(3, 1) = 1", "line(1, 0, true) = 1",
            "shade(0, 0, 127) = 1");
        holds("what came to it is LOST", "picture(2, 1) = 1", "line(1, 0, true) = 1", "shade(0, 0, 127) = 1",
            "lost() ! 127", "shade(0, 0, 128) = 1", "lost() ! -127", "shade(1, 0, 255) = 1", "lost() ! -127",
            "line(0, 0, true) = 1", "lost() ! 0");
        holds("a PLACE is LINE no more", "picture(2, 1) = 1", "shade(0, 0, 127) = 1", "shade(1, 0, 73) = 1",
            "line(0, 0, true) = 1", "dot(1, 1, 0) = 0", "lost() = 73", "line(0, 0, false) = 1", "dot(1, 1, 0) = 1",
            "lost() = -55");
    }

    // ---- Promise 18

    private static void whatIsLost() {
        holds("nothing is LOST of nothing", "lost() ! 0", "picture(24, 24) = 1", "lost() ! 0",
            "ramp(0, 0, 24, 24, 255, 0) = 1", "lost() ! 0");
        String out = "what would go out of the PICTURE is LOST";
        holds(out, "picture(1, 1) = 1", "shade(0, 0, 1) = 1", "lost() = 1", "shade(0, 0, 127) = 1", "lost() = 127",
            "shade(0, 0, 128) = 1", "lost() = -127", "shade(0, 0, 254) = 1", "lost() = -1", "shade(0, 0, 255) = 1",
            "lost() = 0");
        // Five of 16 go down and stay, unless they are LOST by a LINE; the other eleven go out at the sides.
        holds(out + ", at the sides", "picture(1, 2) = 1", "shade(0, 0, 16) = 1", "lost() = 16", "shade(0, 1, 123) = 1",
            "dots(1, 0, 0, 1, 2) = 1", "lost() = -116");
        String[][] rims = {{"0, 0", "7, 0"}, {"0, 7", "7, 7"}, {"3, 0", "3, 7"}, {"0, 3", "7, 3"}};
        for (String[] rim : rims) {
            for (String place : rim) {
                holds(out + ", all that is not made a DOT", "shade(" + place + ", 100) = 1", "dots(1, 0, 0, 8, 8) = 0",
                    "lost() = 100", "back(true) = 1", "lost() = 100");
            }
        }
        // A DOT takes 255: what was there, less 255 a DOT, is all that can be LOST.
        int[][] sizes = {{24, 24}, {1, 24}, {24, 1}, {2, 2}, {7, 5}};
        for (int[] size : sizes) {
            lessTheDots(size[0], size[1], false);
            lessTheDots(size[0], size[1], true);
        }
    }

    private static void lessTheDots(int w, int h, boolean back) {
        Counted press = new Counted();
        press.take("picture(" + w + ", " + h + ")");
        press.take("ramp(0, 0, " + w + ", " + h + ", 60, 9)");
        if (back) {
            press.take("back(true)");
        }
        long inked = Long.parseLong(press.take("dots(1, 0, 0, " + w + ", " + h + ")"));
        long greys = Long.parseLong(press.take("count(3)"));
        due("LOST is all but 255 a DOT", w + " by " + h, press.take("lost()"), "" + (greys - 255 * inked));
    }

    // ---- Promises 14 and 19 and the way GROWN

    private static void nets() {
        int[][] inside = {{8, 8}, {-8, 8}, {8, -8}, {-8, -8}, {8, 0}, {-8, 0}, {0, 8}, {0, -8}, {1, 0}, {-1, 0},
            {0, 1}, {0, -1}};
        for (int[] net : inside) {
            String m = "" + (net[0] * net[0] + net[1] * net[1]);
            holds("each -8 .. 8", "net(" + net[0] + ", " + net[1] + ") = 1", "count(5) = " + m, "count(6) = " + m,
                "net(0, 0) ! 0", "net(9, 0) ! 0", "net(0, 9) ! 0", "net(-9, 0) ! 0", "net(0, -9) ! 0",
                "count(5) = " + m);
        }
        String[] outside = {"0, 0", "9, 1", "-9, 1", "1, 9", "1, -9", "9, 9", "-9, -9", "9, 8", "8, 9", "-9, 8",
            "8, -9", "MAX, 1", "1, MAX", "MIN, 1", "1, MIN", "MIN, MIN", "MAX, MAX", "65536, 65536", "0, MIN",
            "MIN, 0"};
        for (String net : outside) {
            holds("out of bounds", "net(" + net + ") ! 0", "net(3, -2) = 1", "net(" + net + ") ! 0", "count(5) = 13");
            holds("out of bounds", "beat(" + net + ", 0) ! -1", "beat(" + net + ", 1) ! -1");
        }
        holds("the same net again", "net(2, 1) = 1", "rank(1, 0) = 2", "net(2, 1) = 1", "rank(1, 0) = 2");
    }

    private static void ranks() {
        String bounds = "any x, y 0 .. 1,000";
        holds(bounds, "rank(1000, 0) ! 4", "rank(0, 1000) ! 4", "rank(1000, 1000) ! 4", "rank(999, 0) ! 1",
            "rank(0, 999) ! 3", "rank(1000, 999) ! 3", "rank(999, 1000) ! 1", "rank(1001, 0) ! -1", "rank(0, 1001) ! -1",
            "rank(1001, 1001) ! -1", "rank(-1, 0) ! -1", "rank(0, -1) ! -1", "rank(-1, -1) ! -1", "rank(MAX, 0) ! -1",
            "rank(0, MAX) ! -1", "rank(MIN, 0) ! -1", "rank(0, MIN) ! -1", "rank(1000, -1) ! -1", "rank(-1, 1000) ! -1");
        holds("any, in the PICTURE or not", "picture(1, 1) = 1", "rank(1, 0) ! 2", "rank(0, 1) ! 0",
            "rank(1000, 1000) ! 4");
        String modulo = "u and v modulo m (both 0 .. m - 1)";
        holds(modulo, "net(-2, -1) = 1", "rank(0, 0) = 4", "rank(1, 0) = 1", "rank(2, 0) = 0", "rank(3, 0) = 3",
            "rank(4, 0) = 2", "rank(5, 0) = 4", "rank(1000, 0) = 4", "rank(999, 0) = 2");
        holds(modulo, "net(-1, 2) = 1", "rank(0, 0) = 4", "rank(1, 0) = 3", "rank(2, 0) = 1", "rank(3, 0) = 2",
            "rank(4, 0) = 0", "rank(5, 0) = 4");
        holds("alike far: then u", "net(1, 1) = 1", "rank(0, 0) = 0", "rank(1, 0) = 1", "rank(0, 1) = 1",
            "rank(1, 1) = 0", "net(2, 0) = 1", "rank(1, 1) = 0", "rank(0, 1) = 1", "rank(1, 0) = 2", "rank(0, 0) = 3",
            "net(0, 2) = 1", "rank(1, 1) = 0", "rank(1, 0) = 1", "rank(0, 1) = 2", "rank(0, 0) = 3");
        // (8, 2) is 0 and 144 off the middle, (2, 9) is 144 and 4.
        holds("how far first, whatever u is", "net(1, 4) = 1", "rank(0, 2) = 5", "rank(0, 9) = 6");
        holds("m is 1", "net(0, -1) = 1", "rank(0, 0) = 0", "rank(1, 0) = 0", "rank(0, 1000) = 0",
            "rank(1000, 999) = 0", "rank(1001, 0) ! -1");
        holds("m is 128", "net(8, 8) = 1", "rank(0, 0) = 127", "rank(1000, 1000) = 127", "rank(8, 8) = 127",
            "rank(4, 4) ! 98", "count(6) = 128");
        int[][] nets = {{8, 8}, {-8, 7}, {0, -8}, {6, -3}, {2, 1}, {-4, 4}};
        for (int[] net : nets) {
            eachRankOnce(net[0], net[1]);
        }
    }

    /** In a box of m by m PLACES each RANK 0 .. c - 1 is found, and as often as every other. */
    private static void eachRankOnce(int a, int b) {
        int m = a * a + b * b;
        int[] found = new int[m];
        String sentence = "RANKS 0, 1, .. of the net " + a + ", " + b;
        for (int y = 0; y < m; y++) {
            Counted press = new Counted();
            press.take("net(" + a + ", " + b + ")");
            due(sentence, "c", press.take("count(6)"), "" + m);
            for (int x = 0; x < m; x++) {
                int rank = Integer.parseInt(press.take("rank(" + x + ", " + y + ")"));
                if (rank >= 0 && rank < m) {
                    found[rank]++;
                } else {
                    due(sentence, "rank(" + x + ", " + y + ")", "" + rank, "0 .. " + (m - 1));
                }
            }
        }
        for (int rank = 0; rank < m; rank++) {
            due(sentence, "PLACES of RANK " + rank, "" + found[rank], "" + m);
        }
    }

    /** By 2 and 1, c is 5: 51 times the RANK is met by a GREY, and that is not more. */
    private static void dotsByGrown() {
        String sentence = "a DOT if c times its GREY is more than 255 times its pair's RANK";
        leastInked(sentence, 2, 3, 0, 1, NOTHING);
        leastInked(sentence, 2, 4, 0, 52, NOTHING);
        leastInked(sentence, 2, 1, 0, 103, NOTHING);
        leastInked(sentence, 2, 2, 0, 154, NOTHING);
        leastInked(sentence, 2, 0, 0, 205, NOTHING);
        leastInked(sentence, 2, 5, 0, 205, NOTHING);
        leastInked(sentence, 2, 20, 20, 205, "picture(24, 24) = 1");
        leastInked(sentence, 2, 7, 7, 1, "net(1, 0) = 1");
        leastInked(sentence, 2, 0, 0, 254, "net(8, 8) = 1");
        leastInked(sentence, 2, 0, 1, 128, "net(1, 1) = 1");
        leastInked(sentence, 2, 1, 1, 1, "net(1, 1) = 1");
    }

    // ---- Promises 15 to 17

    private static void waysAndPlaces() {
        String[] start = {"picture(6, 4) = 1", "ramp(0, 0, 6, 4, 255, -30) = 1"};
        String[] ways = {"-1", "3", "MIN", "MAX"};
        for (String way : ways) {
            holds("no such way", start[0], start[1], "dot(" + way + ", 0, 0) ! -1");
            holds("no such way", start[0], start[1], "dots(" + way + ", 0, 0, 1, 1) ! -1");
            holds("no such way", start[0], start[1], "read(" + way + ", 0, 0, 1, 1) ! -1");
            holds("no such way, no such PLACE", start[0], start[1], "dot(" + way + ", 6, 4) ! -1");
        }
        String[] outside = {"6, 0", "0, 4", "-1, 0", "0, -1", "6, 3", "5, 4", "MAX, 0", "0, MAX", "MIN, 0", "0, MIN",
            "7, 7", "MAX, MAX", "MIN, MIN"};
        for (int way = 0; way < 3; way++) {
            holds("whether a PLACE has a DOT (1, 0), by " + way, start[0], start[1], "dot(" + way + ", 0, 0) ! 1",
                "shade(5, 3, 0) = 1", "dot(" + way + ", 5, 3) ! 0", "line(5, 3, true) = 1", "shade(5, 3, 128) = 1",
                "dot(" + way + ", 5, 3) ! 1");
            for (String place : outside) {
                holds("no such PLACE, by " + way, start[0], start[1], "dot(" + way + ", " + place + ") ! -1");
            }
        }
    }

    private static void boxes() {
        for (int way = 0; way < 3; way++) {
            refusedBoxes("NONE: as ramp(), by " + way, "dots(" + way + ", ", ") ! -1");
            refusedBoxes("NONE likewise, by " + way, "read(" + way + ", ", ") ! -1");
            holds("boxes of the greatest PICTURE by " + way, "picture(24, 24) = 1", "ramp(0, 0, 24, 24, 255, 0) = 1",
                "dots(" + way + ", 0, 0, 24, 24) ! 576", "dots(" + way + ", 23, 23, 1, 1) ! 1",
                "dots(" + way + ", 0, 0, 24, 1) ! 24", "dots(" + way + ", 0, 23, 24, 1) ! 24",
                "dots(" + way + ", 23, 0, 1, 24) ! 24", "dots(" + way + ", 1, 0, 24, 24) ! -1",
                "dots(" + way + ", 0, 1, 24, 24) ! -1", "read(" + way + ", 0, 0, 24, 24) ! 255",
                "read(" + way + ", 0, 0, 25, 24) ! -1", "read(" + way + ", 0, 0, 24, 25) ! -1");
        }
        holds("DOTS of the box alone", "shade(2, 1, 255) = 1", "shade(4, 3, 255) = 1", "dots(0, 2, 1, 3, 3) = 2",
            "dots(0, 2, 1, 2, 3) = 1", "dots(0, 2, 1, 3, 2) = 1", "dots(0, 3, 1, 2, 3) = 1", "dots(0, 2, 2, 3, 2) = 1",
            "dots(0, 3, 2, 1, 1) = 0");
        // 127 in the PLACE before the box gives 55 to its first one.
        holds("by CARRIED the whole PICTURE is gone over", "picture(3, 1) = 1", "shade(0, 0, 127) = 1",
            "shade(1, 0, 73) = 1", "dots(1, 1, 0, 2, 1) = 1", "dot(1, 1, 0) = 1", "read(1, 1, 0, 1, 1) = 255");
    }

    private static void readings() {
        // TABLE 1 by 1: a DOT wherever there is any GREY. So many DOTS of so many PLACES (in a row of 24).
        int[][] parts = {{1, 2, 128}, {1, 4, 64}, {3, 4, 191}, {1, 3, 85}, {1, 6, 43}, {5, 6, 213}, {1, 7, 36}, {2, 7, 73},
            {1, 10, 26}, {3, 10, 77}, {0, 9, 0}, {9, 9, 255}, {1, 24, 11}, {23, 24, 244}, {1, 1, 255}, {0, 1, 0}};
        for (int[] part : parts) {
            List<String> rows = new ArrayList<>();
            rows.add("picture(24, 1) = 1");
            if (part[0] > 0) {
                rows.add("ramp(0, 0, " + part[0] + ", 1, 1, 0) = 1");
            }
            rows.add("read(0, 0, 0, " + part[1] + ", 1) ! " + part[2]);
            holds("to the nearest (of two the greater)", rows);
        }
        // Of 576 PLACES: 35 DOTS are 15.49.., 96 are 42.5, 157 are 69.505..
        holds("just below a half", "picture(24, 24) = 1", "ramp(0, 0, 24, 1, 1, 0) = 1", "ramp(0, 1, 11, 1, 1, 0) = 1",
            "dots(0, 0, 0, 24, 24) = 35", "read(0, 0, 0, 24, 24) = 15");
        holds("a half", "picture(24, 24) = 1", "ramp(0, 0, 24, 4, 1, 0) = 1", "dots(0, 0, 0, 24, 24) = 96",
            "read(0, 0, 0, 24, 24) = 43");
        holds("just above a half", "picture(24, 24) = 1", "ramp(0, 0, 24, 6, 1, 0) = 1", "ramp(0, 6, 13, 1, 1, 0) = 1",
            "dots(0, 0, 0, 24, 24) = 157", "read(0, 0, 0, 24, 24) = 70");
    }

    // ---- Promises 20 to 22

    private static void beats() {
        String[] turned = {"2, 1", "-1, 2", "-2, -1", "1, -2"};
        for (String net : turned) {
            holds("of 0: 1", "beat(" + net + ", 0) ! 0", "beat(" + net + ", 1) ! 1");
        }
        holds("what 0 the numerator, 1 the denominator", "beat(1, 2, 0) ! 2", "beat(1, 2, 1) ! 25", "beat(1, 2, 2) ! -1",
            "beat(1, 2, -1) ! -1", "beat(1, 2, MAX) ! -1", "beat(1, 2, MIN) ! -1", "beat(2, 1, 2) ! -1",
            "beat(0, 0, 2) ! -1", "beat(9, 9, -1) ! -1");
        // 5 and 64 less 32 by 5 times 64; 5 and 128 less 48 by 5 times 128, in lowest terms.
        String[] straight = {"8, 0", "-8, 0", "0, 8", "0, -8"};
        for (String net : straight) {
            holds("each -8 .. 8", "beat(" + net + ", 0) ! 37", "beat(" + net + ", 1) ! 320");
        }
        String[] across = {"8, 8", "-8, 8", "8, -8", "-8, -8"};
        for (String net : across) {
            holds("lowest terms", "beat(" + net + ", 0) ! 17", "beat(" + net + ", 1) ! 128");
            holds("of 0: 1", "net(8, 8) = 1", "beat(" + net + ", 0) ! 0", "beat(" + net + ", 1) ! 1");
        }
        // (1, 0) less (1/8, 0): 49/64. (1, 0) less (1/2, 1/2): 1/2.
        holds("m is 1", "net(1, 0) = 1", "beat(8, 0, 0) = 49", "beat(8, 0, 1) = 64", "beat(1, 1, 0) = 1",
            "beat(1, 1, 1) = 2", "beat(0, -1, 0) = 0", "beat(0, -1, 1) = 1");
        holds("the net stays", "beat(5, 5, 0) ! 1", "beat(5, 5, 1) ! 10", "count(5) = 5");
    }

    private static void bests() {
        holds("c 1 .. 8 and d 0 .. 8", "best() ! 10", "net(1, 0) = 1", "best() ! 88", "net(0, -1) = 1", "best() ! 88",
            "net(-8, -8) = 1", "best() ! 10");
        holds("of several the least c, then d", "net(2, 0) = 1", "beat(1, 0, 0) = 1", "beat(1, 0, 1) = 4",
            "beat(1, 1, 0) = 1", "beat(1, 1, 1) = 4", "best() ! 10", "net(0, -2) = 1", "best() ! 10");
    }

    private static void counts() {
        String[] start = {"picture(5, 6) = 1", "shade(4, 5, 30) = 1", "shade(0, 0, 12) = 1", "line(0, 0, true) = 1",
            "line(1, 0, true) = 1", "table(7) = 1", "net(-2, 4) = 1", "back(true) = 1"};
        List<String> rows = new ArrayList<>(Arrays.asList(start));
        int[] due = {5, 6, 2, 30, 7, 20, 20, 1};
        for (int what = 0; what < due.length; what++) {
            rows.add("count(" + what + ") ! " + due[what]);
        }
        rows.addAll(Arrays.asList("count(-1) ! -1", "count(8) ! -1", "count(MAX) ! -1", "count(MIN) ! -1"));
        holds("NONE for others", rows);
        holds("full", "picture(24, 24) = 1", "ramp(0, 0, 24, 24, 255, 0) = 1", "count(2) = 0", "count(3) = 146880",
            "line(23, 23, true) = 1", "count(2) = 1", "count(3) = 146625");
        List<String> all = new ArrayList<>();
        all.add("picture(20, 20) = 1");
        all.add("ramp(0, 0, 20, 20, 9, 0) = 1");
        for (int place = 0; place < 400; place++) {
            all.add("line(" + place % 20 + ", " + place / 20 + ", true) = 1");
        }
        all.add("count(2) = 400");
        all.add("count(3) = 0");
        all.add("lost() = 0");
        holds("all are LINES", all);
    }

    private static void madeAnew() {
        String sentence = "DOTS are made of it as it is, each time anew";
        holds(sentence, "dot(0, 0, 0) = 0", "shade(0, 0, 1) = 1", "dot(0, 0, 0) = 1", "table(2) = 1",
            "exchange(0, 3) = 1", "dot(0, 0, 0) = 0", "table(2) = 1", "dot(0, 0, 0) = 1", "shade(0, 0, 0) = 1",
            "dot(0, 0, 0) = 0");
        holds(sentence, "shade(0, 0, 127) = 1", "shade(1, 0, 73) = 1", "dot(1, 1, 0) = 1", "shade(0, 0, 0) = 1",
            "dot(1, 1, 0) = 0", "ramp(0, 0, 2, 1, 255, -182) = 1", "dot(1, 1, 0) = 0", "lost() = 73",
            "picture(8, 8) = 1", "dot(1, 0, 0) = 0", "dots(1, 0, 0, 8, 8) = 0", "lost() = 0");
        holds(sentence, "shade(0, 0, 200) = 1", "dot(2, 0, 0) = 0", "net(-1, 0) = 1", "dot(2, 0, 0) = 1",
            "net(2, 1) = 1", "dot(2, 0, 0) = 0", "line(0, 0, true) = 1", "dot(2, 0, 0) = 1");
    }

    // ---- What is refused answers as told and changes nothing

    private static void refusedInEachState() {
        refusedIn(8, 8, 1, false);
        refusedIn(5, 3, 3, true, "picture(5, 3) = 1", "ramp(0, 0, 5, 3, 40, 37) = 1", "line(1, 1, true) = 1",
            "line(4, 2, true) = 1", "table(3) = 1", "exchange(2, 7) = 1", "net(-3, 2) = 1", "back(true) = 1");
        refusedIn(24, 24, 8, false, "picture(24, 24) = 1", "ramp(0, 0, 24, 24, 3, 11) = 1", "line(0, 23, true) = 1",
            "line(23, 0, true) = 1", "table(8) = 1", "exchange(63, 0) = 1", "net(8, 8) = 1");
        refusedIn(1, 1, 5, true, "picture(1, 1) = 1", "shade(0, 0, 200) = 1", "table(5) = 1", "even(3) = 3",
            "net(0, -1) = 1", "back(true) = 1");
    }

    private static void refusedIn(int w, int h, int n, boolean back, String... start) {
        String right = w + ", 0";
        String below = "0, " + h;
        int after = n * n;
        String[] refused = {"picture(0, 1) ! 0", "picture(1, 0) ! 0", "picture(25, 1) ! 0", "picture(1, 25) ! 0",
            "shade(" + right + ", 77) ! 0", "shade(" + below + ", 77) ! 0", "shade(-1, 0, 77) ! 0",
            "shade(0, -1, 77) ! 0", "shade(0, 0, -1) ! 0", "shade(0, 0, 256) ! 0",
            "ramp(0, 0, " + (w + 1) + ", 1, 77, 1) ! 0", "ramp(0, 0, 1, " + (h + 1) + ", 77, 1) ! 0",
            "ramp(" + right + ", 1, 1, 77, 1) ! 0", "ramp(" + below + ", 1, 1, 77, 1) ! 0",
            "ramp(-1, 0, 1, 1, 77, 1) ! 0", "ramp(0, -1, 1, 1, 77, 1) ! 0", "ramp(0, 0, 0, 1, 77, 1) ! 0",
            "ramp(0, 0, 1, 0, 77, 1) ! 0", "ramp(0, 0, 1, 1, -1, 1) ! 0", "ramp(0, 0, 1, 1, 256, 1) ! 0",
            "ramp(0, 0, 1, 1, 77, 256) ! 0", "ramp(0, 0, 1, 1, 77, -256) ! 0", "line(" + right + ", true) ! 0",
            "line(" + below + ", true) ! 0", "line(-1, 0, true) ! 0", "line(0, -1, true) ! 0", "line(0, 0, false) ! 0",
            "grey(" + right + ") ! -1", "grey(" + below + ") ! -1", "table(0) ! 0", "table(9) ! 0",
            "exchange(0, " + after + ") ! 0", "exchange(-1, 0) ! 0", "exchange(0, 0) ! 0", "number(" + after + ") ! -1",
            "number(-1) ! -1", "worth(0, " + after + ") ! " + THROWS, "worth(-1, 0) ! " + THROWS,
            "worth(0, 0) ! " + THROWS, "even(-1) ! -1", "even(101) ! -1", "back(" + back + ") ! 0", "net(0, 0) ! 0",
            "net(9, 1) ! 0", "net(1, -9) ! 0", "dot(3, 0, 0) ! -1", "dot(-1, 0, 0) ! -1", "dot(1, " + right + ") ! -1",
            "dots(3, 0, 0, 1, 1) ! -1", "dots(1, 0, 0, " + (w + 1) + ", 1) ! -1", "dots(1, 0, 0, 1, 0) ! -1",
            "read(3, 0, 0, 1, 1) ! -1", "read(1, 0, 0, 1, " + (h + 1) + ") ! -1", "read(1, 0, 0, 0, 1) ! -1",
            "rank(1001, 0) ! -1", "rank(0, -1) ! -1", "beat(0, 0, 0) ! -1", "beat(9, 1, 0) ! -1", "beat(1, 1, 2) ! -1",
            "count(-1) ! -1", "count(8) ! -1"};
        for (String row : refused) {
            List<String> rows = new ArrayList<>(Arrays.asList(start));
            rows.add(row);
            holds("refused in " + w + " by " + h, rows);
        }
        if (n > 5) {
            List<String> rows = new ArrayList<>(Arrays.asList(start));
            rows.add("even(100) ! -1");
            holds("refused, n " + n, rows);
        }
    }

    // ---- Rows and what they run on

    private static void due(String sentence, String call, String got, String want) {
        rowsRun++;
        if (!got.equals(want)) {
            wrong++;
            if (wrong < 40) {
                System.out.println(sentence + ": " + call + " answered " + got + ", due is " + want);
            }
        }
    }

    private static void holds(String sentence, String... rows) {
        holds(sentence, Arrays.asList(rows));
    }

    private static void holds(String sentence, List<String> rows) {
        Counted press = new Counted();
        List<String> before = new ArrayList<>();
        for (String row : rows) {
            int end = row.indexOf(')') + 1;
            String call = row.substring(0, end);
            due(sentence, call, press.take(call), row.substring(end + 3));
            if (row.charAt(end + 1) == '!') {
                String without = look(before);
                before.add(call);
                due(sentence, "all else after " + call, look(before), without);
            } else {
                before.add(call);
            }
        }
    }

    /** The least GREY that makes a DOT at a PLACE, after these rows; one less makes none. */
    private static void leastInked(String sentence, int way, int x, int y, int least, String... rows) {
        List<String> all = new ArrayList<>(Arrays.asList(rows));
        String place = x + ", " + y;
        all.add("shade(" + place + ", " + (least - 1) + ") = 1");
        all.add("dot(" + way + ", " + place + ") = 0");
        all.add("shade(" + place + ", " + least + ") = 1");
        all.add("dot(" + way + ", " + place + ") = 1");
        holds(sentence + " at " + place, all);
    }

    /** All that can be asked of a new object after these calls; in great PICTURES of the rims alone. */
    private static String look(List<String> calls) {
        Counted press = new Counted();
        for (String call : calls) {
            press.take(call);
        }
        StringBuilder seen = new StringBuilder();
        for (int what = 0; what < 8; what++) {
            press.note(seen, "count(" + what + ")");
        }
        int w = Integer.parseInt(press.take("count(0)"));
        int h = Integer.parseInt(press.take("count(1)"));
        int n = Integer.parseInt(press.take("count(4)"));
        for (int place = 0; place < n * n; place++) {
            press.note(seen, "number(" + place + ")");
        }
        String[] once = {"cost()", "lost()", "best()", "beat(1, 0, 0)", "beat(1, 0, 1)", "beat(3, -2, 0)",
            "rank(0, 0)", "rank(1, 0)", "rank(2, 0)", "rank(3, 0)", "rank(0, 1)", "rank(0, 2)", "rank(1000, 999)"};
        for (String call : once) {
            press.note(seen, call);
        }
        for (int way = 0; way < 3; way++) {
            for (int x = 0; x < w; x++) {
                press.note(seen, "dots(" + way + ", " + x + ", 0, 1, " + h + ")");
            }
            for (int y = 0; y < h; y++) {
                press.note(seen, "dots(" + way + ", 0, " + y + ", " + w + ", 1)");
            }
        }
        lookAtPlaces(press, seen, w, h);
        return seen.toString();
    }

    /** LINES are asked for last: to ask makes them LINES. */
    private static void lookAtPlaces(Counted press, StringBuilder seen, int w, int h) {
        String[] heads = {"grey(", "line("};
        String[] tails = {")", ", true)"};
        for (int kind = 0; kind < heads.length; kind++) {
            for (int y = 0; y < h; y++) {
                for (int x = 0; x < w; x++) {
                    boolean rim = x == 0 || y == 0 || x == w - 1 || y == h - 1;
                    if (w * h <= 64 || rim) {
                        press.note(seen, heads[kind] + x + ", " + y + tails[kind]);
                    }
                }
            }
        }
    }

    /** A press that is asked by texts and never more than 512 times. */
    private static final class Counted {
        private final DotPress press = new DotPress();
        private int calls = 0;

        void note(StringBuilder seen, String call) {
            seen.append(call).append(' ').append(take(call)).append("; ");
        }

        String take(String call) {
            calls++;
            if (calls > MOST_CALLS) {
                throw new IllegalStateException("the test itself is wrong: call " + calls + " is " + call);
            }
            int open = call.indexOf('(');
            Method method = methodOf(call.substring(0, open));
            String inside = call.substring(open + 1, call.length() - 1);
            String[] texts = inside.isEmpty() ? new String[0] : inside.split(", ");
            Object[] values = new Object[texts.length];
            for (int i = 0; i < texts.length; i++) {
                values[i] = method.getParameterTypes()[i] == boolean.class ? Boolean.valueOf(texts[i]) : valueOf(texts[i]);
            }
            return answer(method, values);
        }

        private String answer(Method method, Object[] values) {
            try {
                Object got = method.invoke(press, values);
                return got instanceof Boolean is ? (is ? "1" : "0") : got.toString();
            } catch (InvocationTargetException e) {
                return "throws " + e.getCause().getClass().getSimpleName();
            } catch (IllegalAccessException e) {
                throw new IllegalStateException(e);
            }
        }

        private static Object valueOf(String text) {
            if (text.equals("MIN")) {
                return Integer.MIN_VALUE;
            }
            return text.equals("MAX") ? Integer.valueOf(Integer.MAX_VALUE) : Integer.valueOf(text);
        }

        private static Method methodOf(String name) {
            for (Method method : DotPress.class.getMethods()) {
                if (method.getName().equals(name)) {
                    return method;
                }
            }
            throw new IllegalStateException("the test itself is wrong: there is no " + name);
        }
    }
}
