/** Each promise by hand: ordinary inputs, the edges that the document names, wrong inputs. */
public final class PromisesTest {
    private static final int NONE = -1, UNKNOWN = -101, OUTSIDE = -102, STATE = -103, FULL = -104;
    private static final int LOWEST = Integer.MIN_VALUE, HIGHEST = Integer.MAX_VALUE;

    private static final Check CHECK = new Check();
    private static int promise;

    private static void due(String call, long got, long want) {
        CHECK.due("promise " + promise + ": " + call, got, want);
    }

    public static void main(String[] args) {
        newObject();
        letters();
        blankAndFault();
        stair();
        basin();
        boatAndAbout();
        as();
        rise();
        take();
        pour();
        down();
        day();
        fewest();
        fewestFirst();
        lacks();
        lasts();
        lined();
        chance();
        mudAndLine();
        poured();
        sure();
        weeks();
        imageAndRestore();
        count();
        digest();
        exampleOfReadme();
        CHECK.end("PromisesTest");
    }

    private static void newObject() {
        promise = 1;
        WaterShoulders x = new WaterShoulders();
        for (int what = 0; what < 8; what++) {
            due("count(" + what + ")", x.count(what), 0);
        }
        due("basin(0, 0)", x.basin(0, 0), UNKNOWN);
        due("about(0, 0)", x.about(0, 0), UNKNOWN);
        due("as(0, 0)", x.as(0, 0), UNKNOWN);
        due("rise(0)", x.rise(0), UNKNOWN);
        due("take(0, 1)", x.take(0, 1), UNKNOWN);
        due("pour(0, 0)", x.pour(0, 0), UNKNOWN);
        due("down(0)", x.down(0), UNKNOWN);
        due("lacks(0)", x.lacks(0), UNKNOWN);
        due("lasts(0)", x.lasts(0), UNKNOWN);
        due("fewest(0, 1, 0)", x.fewest(0, 1, 0), UNKNOWN);
        due("chance(1, 1, 1, 1, 0)", x.chance(1, 1, 1, 1, 0), UNKNOWN);
        due("mud(1, 0)", x.mud(1, 0), UNKNOWN);
        due("sure(0)", x.sure(0), UNKNOWN);
        due("boat(0, 0, 0)", x.boat(0, 0, 0), STATE);
        due("day(0)", x.day(0), STATE);
        due("lined(1)", x.lined(1), STATE);
        due("line(0)", x.line(0), STATE);
        due("poured()", x.poured(), STATE);
        due("weeks(1, 0, 0)", x.weeks(1, 0, 0), STATE);
        due("image()", x.image(), STATE);
        due("restore()", x.restore(), STATE);
        due("stair()", x.stair(), STATE);
    }

    private static void letters() {
        promise = 2;
        WaterShoulders x = new WaterShoulders();
        due("letters(0)", x.letters(0), 0);
        due("letters of one", x.letters('5'), 1);
        due("letters of 126", x.letters(126), 2);
        due("letters of 127", x.letters(127), OUTSIDE);
        due("letters of 255", x.letters(255), OUTSIDE);
        due("letters(-1)", x.letters(-1L), OUTSIDE);
        due("letters(LOWEST)", x.letters(Long.MIN_VALUE), OUTSIDE);
        due("a letter behind a 0", x.letters('5' << 8), OUTSIDE);
        due("a letter behind a 0", x.letters('5' | 1L << 56), OUTSIDE);
        due("127 behind a letter", x.letters('5' | 127 << 8), OUTSIDE);
        due("eight letters", x.letters(0x0102030405060708L), 10);
        due("five are too many", x.letters(0x3131313131L), FULL);
        due("OUTSIDE comes ahead of FULL", x.letters(0x7f313131313131L), OUTSIDE);
        due("four are not", x.letters(0x31313131L), 14);
        due("none are not", x.letters(0), 14);
        due("one is", x.letters('1'), FULL);
        due("count(5)", x.count(5), 14);
    }

    private static int faultOf(String text) {
        WaterShoulders x = new WaterShoulders();
        Check.write(x, text);
        return x.fault();
    }

    private static void blankAndFault() {
        promise = 3;
        WaterShoulders x = new WaterShoulders();
        due("blank()", x.blank(), 0);
        Check.write(x, "53/4");
        due("blank()", x.blank(), 4);
        due("count(5)", x.count(5), 0);
        due("blank()", x.blank(), 0);
        Check.write(x, "11/11");
        due("it is written anew", x.stair(), 2);

        promise = 4;
        String[] texts = {"", "1", "5", "0", "6", "/", "10", "15", "16", "1/", "10/", "100", "10/0",
            "10/10", "10/10/", "10/10/10/10", "10/10/10/10/", "10/10/10/101", "10/10/10/10/10",
            "a", "10 ", "//////////////", "50/55/x", "10/10/10/1~", "0/0"};
        int[] faults = {0, 1, 1, 0, 0, 0, 2, 2, 1, 1, 3, 2, 3, 5, 6, 11, 11, 11, 11, 0, 2, 0, 6, 10,
            0};
        for (int i = 0; i < texts.length; i++) {
            due("fault() of " + texts[i], faultOf(texts[i]), faults[i]);
        }
    }

    private static void stair() {
        promise = 5;
        String[] none = {"", "1", "10", "10/", "10/1", "10/10/", "10/10/10/", "10/10/1",
            "10/10/10/10/", "10/10/10/10/10", "00/10", "60/10", "16/10", "10-10", "10/10x"};
        for (String text : none) {
            WaterShoulders x = new WaterShoulders();
            Check.write(x, text);
            due("stair() of " + text, x.stair(), STATE);
            due("its letters stay: " + text, x.count(5), text.length());
            due("none was read: " + text, x.count(6), 0);
        }
        WaterShoulders x = new WaterShoulders();
        Check.write(x, "10/55");
        due("stair()", x.stair(), 2);
        due("count(5)", x.count(5), 0);
        x.boat(0, 1, 0);
        x.day(9);
        x.mud(1, 0);
        x.line(1);
        Check.write(x, "30/40/5x");
        due("stair()", x.stair(), STATE);
        due("what was stays", x.count(1) + x.count(3) + x.count(4), 3);
        x.blank();
        Check.write(x, "30/40/51/12");
        due("stair()", x.stair(), 4);
        due("BASINS", x.count(0), 4);
        due("BOATS are gone", x.count(1), 0);
        due("BUCKETS are gone", x.count(2), 0);
        due("DAYS are gone", x.count(3), 0);
        due("lines are gone", x.count(4), 0);
        due("MUD is gone", x.poured(), STATE);
        due("stairs", x.count(6), 2);
        Check.write(x, "20/20/20");
        due("stair()", x.stair(), 3);
        due("basin(3, 0)", x.basin(3, 0), UNKNOWN);
    }

    private static void basin() {
        promise = 6;
        WaterShoulders x = Check.onStair("53/40/15");
        int[][] want = {{5, 3, 5}, {4, 0, 0}, {1, 5, 0}};
        for (int i = 0; i < 3; i++) {
            for (int what = 0; what < 3; what++) {
                due("basin(" + i + ", " + what + ")", x.basin(i, what), want[i][what]);
            }
        }
        due("basin(3, 0)", x.basin(3, 0), UNKNOWN);
        due("basin(-1, 0)", x.basin(-1, 0), UNKNOWN);
        due("basin(0, 3)", x.basin(0, 3), OUTSIDE);
        due("basin(0, -1)", x.basin(0, -1), OUTSIDE);
        due("UNKNOWN comes first", x.basin(3, 3), UNKNOWN);
        due("basin(HIGHEST, LOWEST)", x.basin(HIGHEST, LOWEST), UNKNOWN);
        due("basin(LOWEST, 0)", x.basin(LOWEST, 0), UNKNOWN);
        x.day(3);
        due("it leaks what it has not", x.basin(2, 2), 0);
        due("the rest ran over", x.basin(1, 2), 2);
        due("the river stays", x.basin(0, 2), 5);
    }

    private static void boatAndAbout() {
        promise = 7;
        WaterShoulders x = Check.onStair("30/40");
        int[][] wrong = {{-1, 0, 0}, {5, 0, 0}, {5, 0, 1}, {0, -1, 0}, {0, 6, 0}, {0, 0, 1},
            {1, 0, 1}, {2, 0, 1}, {2, 0, -1}, {3, 0, 0}, {3, 0, 4}, {4, 0, 0}, {4, 0, 4},
            {4, 6, 1}, {LOWEST, 0, 0}, {HIGHEST, 0, 1}, {3, 0, LOWEST}, {3, HIGHEST, 1}};
        for (int[] w : wrong) {
            due("boat(" + w[0] + ", " + w[1] + ", " + w[2] + ")", x.boat(w[0], w[1], w[2]),
                    OUTSIDE);
        }
        due("none is there", x.count(1), 0);
        int[][] boats = {{0, 5, 0}, {1, 3, 0}, {2, 5, 0}, {3, 0, 3}, {4, 2, 3}};
        for (int i = 0; i < 5; i++) {
            due("boat " + i, x.boat(boats[i][0], boats[i][1], boats[i][2]), i);
        }
        due("a sixth", x.boat(0, 0, 0), FULL);
        due("OUTSIDE comes ahead of FULL", x.boat(0, 0, 1), OUTSIDE);
        due("OUTSIDE comes ahead of STATE", new WaterShoulders().boat(0, 6, 0), OUTSIDE);

        promise = 8;
        int[][] want = {{0, 5, 0, 5, 0, 0, 0, 0}, {1, 3, 0, 2, 0, 0, 0, 1}, {2, 5, 0, 6, 0, 0, 0, 0},
            {3, 0, 3, 0, 3, 0, 0, 1}, {4, 2, 3, 2, 6, 0, 0, 1}};
        for (int i = 0; i < 5; i++) {
            for (int what = 0; what < 8; what++) {
                due("about(" + i + ", " + what + ")", x.about(i, what), want[i][what]);
            }
        }
        due("about(0, 8)", x.about(0, 8), OUTSIDE);
        due("about(0, -1)", x.about(0, -1), OUTSIDE);
        due("about(5, 8)", x.about(5, 8), UNKNOWN);
        due("about(-1, 0)", x.about(-1, 0), UNKNOWN);
        x.take(4, 3);
        due("LOAD", x.about(4, 6), 3);
        x.pour(4, 1);
        x.rise(4);
        due("its BASIN", x.about(4, 5), 1);
        due("it FLOATS", x.about(4, 7), 1);
        x.take(4, 2);
        due("it took the water from below itself", x.about(4, 7), 0);
        int[] puntNeeds = {0, 1, 1, 2, 2, 3};
        for (int d = 0; d <= 5; d++) {
            WaterShoulders y = Check.onStair("30/40");
            y.boat(1, d, 0);
            due("a PUNT of " + d + " NEEDS", y.about(0, 3), puntNeeds[d]);
        }
    }

    private static void as() {
        promise = 9;
        WaterShoulders x = Check.onStair("30/40");
        for (int kind = 0; kind < 5; kind++) {
            x.boat(kind, 1, kind < 3 ? 0 : 1);
        }
        for (int i = 0; i < 5; i++) {
            for (int kind = 0; kind < 5; kind++) {
                boolean is = kind == 0 || kind == i || i == 4 && kind == 3;
                due("as(" + i + ", " + kind + ")", x.as(i, kind), is ? i : NONE);
            }
        }
        due("as(0, 5)", x.as(0, 5), OUTSIDE);
        due("as(0, -1)", x.as(0, -1), OUTSIDE);
        due("as(5, 5)", x.as(5, 5), UNKNOWN);
        due("as(-1, 0)", x.as(-1, 0), UNKNOWN);
    }

    private static void rise() {
        promise = 10;
        WaterShoulders x = Check.onStair("20/30/30");
        x.boat(0, 2, 0);
        x.boat(0, 0, 0);
        x.boat(0, 3, 0);
        due("the next is dry", x.rise(0), STATE);
        due("it needs nothing", x.rise(1), 1);
        due("it needs nothing", x.rise(1), 2);
        due("it is at the top", x.rise(1), STATE);
        x.day(4);
        due("the next has 1", x.rise(0), STATE);
        x.day(1);
        due("the next has 2", x.rise(0), 1);
        due("the top has 3", x.rise(0), 2);
        due("at the top", x.rise(0), STATE);
        x.day(1);
        due("it floats not", x.rise(2), STATE);
        due("it stays", x.about(2, 5), 0);
        due("rise(3)", x.rise(3), UNKNOWN);
        due("rise(-1)", x.rise(-1), UNKNOWN);
        due("rise(LOWEST)", x.rise(LOWEST), UNKNOWN);
        x.down(0);
        WaterShoulders y = Check.onStair("20/31/30");
        y.boat(0, 2, 0);
        y.day(9);
        due("rise(0)", y.rise(0), 1);
        y.day(0);
        due("its own BASIN has too few", y.rise(0), STATE);
    }

    private static void take() {
        promise = 11;
        WaterShoulders x = Check.onStair("40/50/50");
        x.boat(4, 0, 3);
        x.boat(3, 0, 2);
        x.boat(2, 0, 0);
        due("take(0, 0)", x.take(0, 0), OUTSIDE);
        due("take(0, 7)", x.take(0, 7), OUTSIDE);
        due("take(3, 0)", x.take(3, 0), UNKNOWN);
        due("take(-1, 1)", x.take(-1, 1), UNKNOWN);
        due("take(0, HIGHEST)", x.take(0, HIGHEST), OUTSIDE);
        due("the river holds 4", x.take(0, 5), STATE);
        due("take(0, 4)", x.take(0, 4), 4);
        due("the river gives on", x.basin(0, 2), 4);
        due("it carries 6", x.take(0, 3), STATE);
        due("take(0, 2)", x.take(0, 2), 6);
        due("it is full", x.take(0, 1), STATE);
        due("a CARRIER carries 2", x.take(1, 3), STATE);
        due("take(1, 2)", x.take(1, 2), 2);
        due("a BARGE carries none", x.take(2, 1), STATE);
        x.pour(0, 1);
        x.rise(0);
        due("the BASIN has 5", x.take(0, 6), STATE);
        due("take(0, 3)", x.take(0, 3), 3);
        due("it has fewer then", x.basin(1, 2), 2);
        due("2 are left", x.take(0, 3), STATE);
        due("take(0, 2)", x.take(0, 2), 5);
        due("it is dry", x.take(0, 1), STATE);
        WaterShoulders y = Check.onStair("50/50");
        y.boat(3, 3, 1);
        y.day(3);
        y.rise(0);
        y.take(0, 1);
        y.pour(0, 0);
        y.take(0, 1);
        due("it floats no more", y.about(0, 7), 0);
        y.boat(3, 5, 3);
        due("one that takes need not float", y.take(1, 1), 1);
    }

    private static void pour() {
        promise = 12;
        WaterShoulders x = Check.onStair("50/20/30");
        x.boat(4, 0, 3);
        x.boat(1, 0, 0);
        due("no LOAD", x.pour(0, 0), STATE);
        due("no LOAD", x.pour(0, 1), STATE);
        due("never a LOAD", x.pour(1, 0), STATE);
        due("pour(0, 2)", x.pour(0, 2), OUTSIDE);
        due("pour(0, -1)", x.pour(0, -1), OUTSIDE);
        due("pour(2, 2)", x.pour(2, 2), UNKNOWN);
        x.take(0, 5);
        due("into the river", x.pour(0, 0), 5);
        due("the river stays", x.basin(0, 2), 5);
        x.take(0, 5);
        due("ahead: 2 stay", x.pour(0, 1), 3);
        due("no LOAD then", x.about(0, 6), 0);
        due("BASIN 1", x.basin(1, 2), 2);
        x.take(0, 5);
        x.rise(0);
        x.take(0, 1);
        due("ahead: 3 stay, 1 below, 2 are gone", x.pour(0, 1), 2);
        due("BASIN 2", x.basin(2, 2), 3);
        due("BASIN 1", x.basin(1, 2), 2);
        x.take(0, 2);
        x.rise(0);
        due("none is next at the top", x.pour(0, 1), STATE);
        due("the LOAD stays", x.about(0, 6), 2);
        due("into its own: all runs over", x.pour(0, 0), 0);
        due("BASIN 1", x.basin(1, 2), 2);
    }

    private static void down() {
        promise = 13;
        WaterShoulders x = Check.onStair("50/20/30");
        x.boat(3, 0, 3);
        due("it is in 0", x.down(0), STATE);
        due("down(1)", x.down(1), UNKNOWN);
        due("down(-1)", x.down(-1), UNKNOWN);
        x.take(0, 1);
        x.rise(0);
        due("it has a LOAD", x.down(0), STATE);
        x.rise(0);
        x.pour(0, 0);
        due("down(0)", x.down(0), 2);
        due("its BASIN", x.about(0, 5), 0);
        due("it is in 0", x.down(0), STATE);
    }

    private static void day() {
        promise = 14;
        WaterShoulders x = Check.onStair("11/53/42/31");
        due("day(-1)", x.day(-1), OUTSIDE);
        due("day(10)", x.day(10), OUTSIDE);
        due("OUTSIDE comes ahead of STATE", new WaterShoulders().day(10), OUTSIDE);
        due("no DAY yet", x.count(3), 0);
        due("3, 4, 2, then 2, 2, 0", x.day(9), 4);
        due("BASIN 3", x.basin(3, 2), 2);
        due("BASIN 2", x.basin(2, 2), 2);
        due("BASIN 1", x.basin(1, 2), 0);
        due("the river leaks not", x.basin(0, 2), 1);
        due("1, 0, 0", x.day(0), 1);
        due("DAYS", x.count(3), 2);
        WaterShoulders y = Check.onStair("50/10");
        due("day(9)", y.day(9), 1);
        due("day(9)", y.day(9), 1);
    }

    private static void fewest() {
        promise = 15;
        WaterShoulders x = Check.onStair("30/30/30");
        x.boat(3, 1, 1);
        x.boat(0, 2, 0);
        x.boat(2, 3, 0);
        due("fewest(3, 0, 0)", x.fewest(3, 0, 0), UNKNOWN);
        due("fewest(1, 3, 0)", x.fewest(1, 3, 0), UNKNOWN);
        due("fewest(-1, 0, 0)", x.fewest(-1, 0, 0), UNKNOWN);
        due("fewest(1, -1, 0)", x.fewest(1, -1, 0), UNKNOWN);
        due("fewest(0, 0, 0)", x.fewest(0, 0, 0), UNKNOWN);
        due("UNKNOWN comes ahead of OUTSIDE", x.fewest(1, 1, 2), UNKNOWN);
        due("fewest(1, 0, 2)", x.fewest(1, 0, 2), OUTSIDE);
        due("fewest(1, 0, -1)", x.fewest(1, 0, -1), OUTSIDE);
        due("OUTSIDE comes ahead of STATE", x.fewest(0, 1, 2), OUTSIDE);
        due("the other is no CARRIER", x.fewest(0, 1, 0), STATE);
        due("refused ones were not done", x.count(7), 0);
        due("a BARGE that needs 4", x.fewest(2, 0, 0), NONE);
        due("a BARGE that needs 4", x.fewest(2, 0, 1), NONE);
        due("they were done", x.count(7), 2);
        x.day(9);
        due("two times it RISES", x.fewest(1, 0, 0), 2);
        x.rise(1);
        x.rise(1);
        due("it is there", x.fewest(1, 0, 0), 0);
        due("it is there", x.fewest(1, 0, 1), NONE);
        for (int i = x.count(7); i < 40; i++) {
            due("time " + i, x.fewest(1, 0, 0), 0);
        }
        due("40 times", x.count(7), 40);
        due("no more", x.fewest(1, 0, 0), STATE);
        due("UNKNOWN comes first still", x.fewest(1, 1, 0), UNKNOWN);
        due("OUTSIDE comes first still", x.fewest(1, 0, 2), OUTSIDE);
        due("still 40", x.count(7), 40);
        Check.write(x, "30/30");
        x.stair();
        x.boat(3, 1, 1);
        x.boat(3, 1, 1);
        due("a new STAIR brings none back", x.fewest(1, 0, 0), STATE);
    }

    private static void fewestFirst() {
        WaterShoulders x = Check.onStair("30/30/30");
        x.boat(3, 0, 3);
        x.boat(0, 0, 0);
        due("0: it RISES", x.fewest(1, 0, 1), 0);
        x.boat(0, 1, 0);
        // takes 1, pours ahead; takes 1, rises, pours ahead; the boat rises and rises
        due("by one bucket each", x.fewest(2, 0, 0), 7);
        due("to take 2 at first is as short: the least", x.fewest(2, 0, 1), 11);
        WaterShoulders y = Check.onStair("30/30");
        y.boat(3, 0, 3);
        y.boat(0, 2, 0);
        due("takes 2, pours ahead, rises", y.fewest(1, 0, 0), 3);
        due("2 are enough", y.fewest(1, 0, 1), 12);
        y.take(0, 2);
        due("4: it POURS ahead", y.fewest(1, 0, 1), 4);
        due("the search changes nothing", y.about(0, 6), 2);
        y.rise(0);
        due("3: it POURS into its own", y.fewest(1, 0, 1), 3);
        due("and the BOAT RISES", y.fewest(1, 0, 0), 2);
        y.pour(0, 0);
        y.take(0, 1);
        y.down(0);
        y.boat(0, 3, 0);
        y.pour(0, 0);
        due("2: it comes DOWN", y.fewest(2, 0, 1), 2);
        due("DOWN, takes 1, ahead, rises", y.fewest(2, 0, 0), 4);
        WaterShoulders z = Check.onStair("30/30/30");
        z.boat(3, 0, 1);
        z.boat(0, 1, 0);
        z.day(4);
        z.rise(1);
        z.boat(3, 0, 3);
        z.rise(2);
        z.rise(2);
        z.take(2, 3);
        z.pour(2, 0);
        z.take(2, 3);
        due("the CARRIER holds the water up", z.fewest(1, 2, 1), 3);
        z.pour(2, 0);
        z.take(2, 3);
        z.down(2);
        due("takes 1, rises, pours ahead, the boat rises", z.fewest(1, 0, 0), 4);
        due("what the BOAT floats on is not taken", z.fewest(1, 0, 1), 11);
        z.take(0, 1);
        due("1: the CARRIER RISES", z.fewest(1, 0, 1), 1);
    }

    private static void lacks() {
        promise = 16;
        WaterShoulders x = Check.onStair("10/30/40");
        x.boat(0, 3, 0);
        x.boat(0, 4, 0);
        x.boat(0, 0, 0);
        due("3 of 3", x.lacks(0), 3);
        due("it can't hold 4", x.lacks(1), NONE);
        due("it needs none", x.lacks(2), 0);
        x.day(5);
        due("1 is there", x.lacks(0), 2);
        x.day(9);
        due("enough, though it floats not", x.lacks(0), 0);
        x.rise(2);
        due("lacks(2)", x.lacks(2), 0);
        x.rise(2);
        due("at the top", x.lacks(2), NONE);
        due("lacks(3)", x.lacks(3), UNKNOWN);
        due("lacks(-1)", x.lacks(-1), UNKNOWN);
    }

    private static void lasts() {
        promise = 17;
        WaterShoulders x = Check.onStair("55/50/52/51");
        for (int i = 1; i < 4; i++) {
            due("dry from the start", x.lasts(i), 0);
        }
        due("the river never", x.lasts(0), NONE);
        x.day(9);
        x.day(9);
        // top 4, below it 3, below that 5
        due("4 by 1", x.lasts(3), 4);
        due("3 by 2", x.lasts(2), 2);
        due("it leaks nothing", x.lasts(1), NONE);
        due("lasts(4)", x.lasts(4), UNKNOWN);
        due("lasts(-1)", x.lasts(-1), UNKNOWN);
    }

    private static void lined() {
        promise = 18;
        WaterShoulders x = Check.onStair("50/53/51");
        due("all alike: the least", x.lined(1), 1);
        due("lined(0)", x.lined(0), OUTSIDE);
        due("lined(10)", x.lined(10), OUTSIDE);
        due("OUTSIDE comes ahead of STATE", new WaterShoulders().lined(0), OUTSIDE);
        x.day(9);
        // 1 below, 4 at the top: a day saves 1 or 1, two save 1 or 2
        due("BUCKETS", x.count(2), 5);
        due("lined(1)", x.lined(1), 1);
        due("lined(2)", x.lined(2), 2);
        due("lined(9)", x.lined(9), 2);
        due("it changes nothing", x.count(2), 5);
    }

    private static void chance() {
        promise = 19;
        WaterShoulders x = Check.onStair("50/30/21");
        due("chance(0, ..)", x.chance(0, 1, 1, 1, 0), UNKNOWN);
        due("chance(3, ..)", x.chance(3, 1, 1, 1, 0), UNKNOWN);
        due("chance(-1, ..)", x.chance(-1, 0, 1, 1, 0), UNKNOWN);
        int[][] wrong = {{0, 5, 1, 0}, {10, 5, 1, 0}, {1, -1, 1, 0}, {1, 11, 1, 0}, {1, 5, -1, 0},
            {1, 5, 6, 0}, {1, 5, 1, -1}, {1, 5, 1, 2}, {LOWEST, HIGHEST, LOWEST, HIGHEST}};
        for (int[] w : wrong) {
            due("chance(1, " + w[0] + ", " + w[1] + ", " + w[2] + ", " + w[3] + ")",
                    x.chance(1, w[0], w[1], w[2], w[3]), OUTSIDE);
        }
        due("5 of 10", x.chance(1, 1, 5, 1, 0), 1);
        due("5 of 10", x.chance(1, 1, 5, 1, 1), 2);
        due("3 of 10", x.chance(1, 1, 3, 1, 0), 3);
        due("3 of 10", x.chance(1, 1, 3, 1, 1), 10);
        due("1 of 10 to the 3", x.chance(1, 3, 1, 3, 0), 1);
        due("1 of 10 to the 3", x.chance(1, 3, 1, 3, 1), 1000);
        due("4 more than it holds", x.chance(1, 9, 10, 4, 0), 0);
        due("0 by 1", x.chance(1, 9, 10, 4, 1), 1);
        due("never fewer than 0", x.chance(1, 9, 0, 0, 0), 1);
        due("for sure", x.chance(1, 9, 10, 3, 0), 1);
        // of 9 days at 1 in 10 one at least: 1 - 0.9^9
        due("in lowest terms", x.chance(1, 9, 1, 1, 0), 612579511L);
        due("in lowest terms", x.chance(1, 9, 1, 1, 1), 1000000000L);
        due("what rained has leaked", x.chance(2, 9, 10, 1, 0), 0);
        x.day(2);
        // the top holds 2, has 1: with rain 2 then 1, without 1 then 0
        due("it stays", x.chance(2, 2, 4, 1, 0), 4);
        due("it stays", x.chance(2, 2, 4, 1, 1), 25);
    }

    private static void mudAndLine() {
        promise = 20;
        WaterShoulders x = Check.onStair("50/30/21");
        due("line(0)", x.line(0), STATE);
        due("STATE comes ahead of OUTSIDE", x.line(6), STATE);
        due("mud(0, 0)", x.mud(0, 0), UNKNOWN);
        due("mud(3, 0)", x.mud(3, 0), UNKNOWN);
        due("mud(-1, 9)", x.mud(-1, 9), UNKNOWN);
        due("mud(1, -1)", x.mud(1, -1), OUTSIDE);
        due("mud(1, 4)", x.mud(1, 4), OUTSIDE);
        due("none yet", x.poured(), STATE);
        due("mud(1, 3)", x.mud(1, 3), 3);
        due("mud(2, 0)", x.mud(2, 0), 2);

        promise = 21;
        due("line(-1)", x.line(-1), OUTSIDE);
        due("line(6)", x.line(6), OUTSIDE);
        for (int i = 1; i <= 7; i++) {
            due("line(5)", x.line(i % 2 == 0 ? 0 : 5), i);
        }
        due("an eighth", x.line(0), FULL);
        due("OUTSIDE comes ahead of FULL", x.line(6), OUTSIDE);
        due("lines", x.count(4), 7);
        due("a refused one changes nothing", x.mud(2, 3), OUTSIDE);
        due("lines", x.count(4), 7);
        due("a new one has none", x.mud(1, 0), 3);
        due("lines", x.count(4), 0);
    }

    private static void poured() {
        promise = 22;
        WaterShoulders x = Check.onStair("50/41");
        x.mud(1, 2);
        due("no lines, no CARRIERS: one way", x.poured(), 1);
        x.line(1);
        due("it leaks", x.poured(), 1);
        x.line(1);
        due("something was poured, by nobody", x.poured(), 0);
        x.boat(0, 1, 0);
        due("a BOAT is no CARRIER", x.poured(), 0);
        x.boat(3, 5, 1);
        due("on DAY 2", x.poured(), 1);
        x.boat(3, 1, 1);
        due("one of two", x.poured(), 2);
        x.line(0);
        due("the other on none", x.poured(), 2);
        x.mud(1, 4);
        x.line(3);
        due("what it can't hold is gone", x.poured(), 4);
        x.boat(4, 0, 3);
        x.boat(4, 0, 2);
        due("all at once or none", x.poured(), 16);
        WaterShoulders y = Check.onStair("50/55");
        for (int i = 0; i < 5; i++) {
            y.boat(3, 0, 1);
        }
        y.mud(1, 0);
        for (int i = 0; i < 7; i++) {
            y.line(0);
        }
        due("8 to the 5", y.poured(), 32768);
        y.mud(1, 5);
        y.line(5);
        due("a line above what it can have", y.poured(), 0);
    }

    private static void sure() {
        promise = 23;
        WaterShoulders x = Check.onStair("50/41");
        x.boat(3, 0, 2);
        x.boat(0, 0, 0);
        due("no MUD", x.sure(0), STATE);
        due("sure(2)", x.sure(2), UNKNOWN);
        due("sure(-1)", x.sure(-1), UNKNOWN);
        x.mud(1, 0);
        due("a BOAT", x.sure(1), STATE);
        due("no lines: on none", x.sure(0), 0);
        x.line(0);
        due("on none", x.sure(0), 0);
        x.line(1);
        due("on DAY 2", x.sure(0), 2);
        x.boat(4, 0, 1);
        due("it or the other", x.sure(0), NONE);
        due("the other or it", x.sure(2), NONE);
        x.line(2);
        due("both, but which first?", x.sure(0), NONE);
        x.boat(3, 0, 1);
        x.line(2);
        due("the third on DAY 4", x.sure(3), 4);
        due("still not", x.sure(2), NONE);
        x.line(5);
        due("no ways", x.sure(3), NONE);
        for (int want = 0; want <= 7; want++) {
            WaterShoulders y = Check.onStair("50/55/20");
            y.boat(4, 0, 1);
            y.mud(2, 0);
            for (int i = 1; i <= 7; i++) {
                y.line(want > 0 && i >= want ? 2 : 0);
            }
            due("on DAY " + want, y.sure(0), want);
        }
    }

    private static void weeks() {
        promise = 24;
        WaterShoulders x = Check.onStair("50/50/50");
        x.boat(0, 1, 0);
        x.boat(0, 1, 0);
        due("weeks(0, ..)", x.weeks(0, 0, 0), OUTSIDE);
        due("weeks(61, ..)", x.weeks(61, 0, 0), OUTSIDE);
        due("weeks(1, -1, 0)", x.weeks(1, -1, 0), OUTSIDE);
        due("weeks(1, LOWEST, 0)", x.weeks(1, LOWEST, 0), OUTSIDE);
        due("weeks(1, 0, 3)", x.weeks(1, 0, 3), OUTSIDE);
        due("weeks(1, 0, -1)", x.weeks(1, 0, -1), OUTSIDE);
        due("OUTSIDE comes ahead of STATE", new WaterShoulders().weeks(0, 0, 0), OUTSIDE);
        due("the next SEED of 0", x.weeks(1, 0, 2), 12345);
        due("the next SEED of 1", x.weeks(1, 1, 2), 1103527590);
        // 1103527590 by 65536 is 16838: its rest by 4 is 2
        due("it rains 2", x.weeks(1, 1, 0), 2);
        due("it rains 0", x.weeks(1, 0, 0), 0);
        due("the SEED behind 2 DAYS", x.weeks(2, 1, 2), 377401575);
        // 377401575 by 65536 is 5758: its rest by 4 is 2
        due("it rains 2 and 2", x.weeks(2, 1, 0), 4);
        due("a SEED as large as can be", x.weeks(1, HIGHEST, 2), 1043980748);
        due("both float", x.weeks(1, 1, 1), 2);
        due("nothing is changed", x.count(2) + x.count(3), 0);
        x.day(1);
        x.day(9);
        x.rise(0);
        x.rise(0);
        due("what is there counts", x.weeks(1, 0, 0), 10);
        due("both float still", x.weeks(60, 1, 1), 2);
        WaterShoulders y = Check.onStair("10/55");
        y.boat(0, 0, 0);
        y.boat(0, 2, 0);
        y.boat(0, 1, 0);
        due("one floats not in the river", y.weeks(9, 9, 1), 2);
    }

    private static void imageAndRestore() {
        promise = 25;
        WaterShoulders x = Check.onStair("50/50/51");
        due("image()", x.image(), 0);
        x.boat(3, 0, 3);
        x.boat(0, 0, 0);
        x.take(0, 3);
        x.pour(0, 1);
        x.take(0, 2);
        x.rise(0);
        x.day(4);
        x.mud(1, 1);
        x.line(4);
        x.letters('1');
        due("the latest", x.image(), 2);
        final long then = x.digest();
        promise = 26;
        x.boat(0, 0, 0);
        x.rise(1);
        x.pour(0, 0);
        x.day(9);
        x.line(2);
        x.line(3);
        due("restore()", x.restore(), 2);
        due("all as then", x.digest(), then);
        due("the new BOAT is gone", x.about(2, 0), UNKNOWN);
        due("LOAD", x.about(0, 6), 2);
        due("its BASIN", x.about(0, 5), 1);
        due("DAYS", x.count(3), 1);
        due("lines", x.count(4), 1);
        x.mud(2, 0);
        due("again", x.restore(), 2);
        due("all as then", x.digest(), then);
        x.blank();
        x.fewest(1, 0, 0);
        due("restore()", x.restore(), 2);
        due("THE PAGE is not kept", x.count(5), 0);
        due("fewest() is not taken back", x.count(7), 1);
        Check.write(x, "50/50/51");
        x.stair();
        due("another STAIR, though like it", x.restore(), STATE);
        x.boat(0, 0, 0);
        due("image()", x.image(), 1);
        x.mud(1, 0);
        due("restore()", x.restore(), 1);
        due("then there was no MUD", x.line(0), STATE);
        due("restore() of none", Check.onStair("50/50").restore(), STATE);
    }

    private static void count() {
        promise = 27;
        WaterShoulders x = Check.onStair("50/50/50");
        x.boat(3, 0, 1);
        x.boat(0, 0, 0);
        x.day(4);
        x.day(4);
        x.day(0);
        x.mud(1, 0);
        for (int i = 0; i < 4; i++) {
            x.line(0);
        }
        Check.write(x, "hello");
        for (int i = 0; i < 7; i++) {
            x.fewest(1, 0, 0);
        }
        int[] want = {3, 2, 8, 3, 4, 5, 1, 7};
        for (int what = 0; what < 8; what++) {
            due("count(" + what + ")", x.count(what), want[what]);
        }
        due("count(8)", x.count(8), OUTSIDE);
        due("count(-1)", x.count(-1), OUTSIDE);
        due("count(LOWEST)", x.count(LOWEST), OUTSIDE);
    }

    private static long folded(long... numbers) {
        long h = 653;
        for (long n : numbers) {
            h = 31 * h + n;
        }
        return h;
    }

    private static void digest() {
        promise = 28;
        WaterShoulders x = new WaterShoulders();
        due("of nothing", x.digest(), folded(0, 0, 0, 0, 0, 0, 0, 0));
        x.letters('A' | '~' << 8);
        due("with letters", x.digest(), folded('A', '~', 0, 0, 0, 0, 0, 2, 0, 0));
        x.blank();
        Check.write(x, "53/42");
        x.stair();
        due("with a STAIR", x.digest(),
                folded(5, 3, 5, -1, 4, 2, 0, 0, 1, 2, 0, 0, 0, 0, 0, 1, 0));
        x.boat(4, 3, 2);
        x.day(4);
        x.mud(1, 3);
        x.letters('1');
        due("with all", x.digest(), folded(5, 3, 5, -1, 4, 2, 2, 1, 4, 3, 2, 3, 4, 0, 0, 1, 1, 1,
                1, '1', 2, 1, 2, 1, 0, 1, 1, 0));
        x.line(2);
        x.line(0);
        due("with lines", x.digest(), folded(5, 3, 5, -1, 4, 2, 2, 1, 4, 3, 2, 3, 4, 0, 0, 1, 1, 1,
                2, 0, 1, '1', 2, 1, 2, 1, 2, 1, 1, 0));
        due("it changes nothing", x.digest(), x.digest());
    }

    /** README.md shows these calls with these answers. */
    private static void exampleOfReadme() {
        promise = 15;
        WaterShoulders x = new WaterShoulders();
        due("letters of 32/30", x.letters(0x30332f3233L), 5);
        due("stair()", x.stair(), 2);
        int carrier = x.boat(3, 0, 3);
        int boat = x.boat(0, 2, 0);
        due("fewest(boat, carrier, 0)", x.fewest(boat, carrier, 0), 3);
        due("fewest(boat, carrier, 1)", x.fewest(boat, carrier, 1), 12);
        due("take(carrier, 2)", x.take(carrier, 2), 2);
        due("pour(carrier, 1)", x.pour(carrier, 1), 0);
        due("rise(boat)", x.rise(boat), 1);
    }
}
