/** The bounds that promises 15 to 19 and section 2 name, a sentence each. */
public final class WouldBeEdgesTest {
    private static final Edges AT = new Edges();
    private static final String[] NO_BOATS = {"MIN", "-1", "3", "4", "5", "MAX"};

    public static void main(String[] args) {
        fewestOfOneAtTheTop();
        fewestThatCanNotBe();
        fewestWhileWaterIsEnough();
        fewestOfLongRows();
        fewestTakesWhatIsThere();
        firstOfEachAct();
        firstIsTheLeast();
        fewestUnknown();
        fewestOutside();
        fewestByNoCarrier();
        fewestDoneFortyTimes();
        fewestRefusedIsNotDone();
        lacks();
        lacksNone();
        lacksUnknown();
        lasts();
        lastsNever();
        lastsUnknown();
        linedDays();
        linedOfLikeOnes();
        chanceBasins();
        chanceBounds();
        chanceOfNoneAndAll();
        chanceOfAFullBasin();
        chanceInLowestTerms();
        AT.end("WouldBeEdgesTest");
    }

    private static void fewestOfOneAtTheTop() {
        AT.sentence("the BOAT is in the top BASIN (0: it is); 15: 1 the first (NONE: it is there)",
                "write(50/50/50); stair(); boat(0, 0, 0); boat(3, 0, 1); rise(0)");
        AT.is(1, "fewest(0, 1, 0)");
        AT.is(0, "fewest(0, 1, 1)");
        AT.is(0, "rise(0); fewest(0, 1, 0)");
        AT.is(Edges.NONE, "rise(0); fewest(0, 1, 1)");
        AT.is(2, "down(0); fewest(0, 1, 0)");
        AT.sentence("as above, whether it FLOATS there or not", "write(50/51); stair(); "
                + "boat(0, 1, 0); boat(3, 0, 1); day(2); rise(0); day(0)");
        AT.is(0, "about(0, 7)");
        AT.is(0, "fewest(0, 1, 0)");
        AT.is(Edges.NONE, "fewest(0, 1, 1)");
    }

    /** How many acts, and the first of them, of boat 1 by boat 0. */
    private static void row(long acts, long first, String calls) {
        AT.is(acts, Script.joined(calls, "fewest(1, 0, 0)"));
        AT.is(first, Script.joined(calls, "fewest(1, 0, 1)"));
    }

    private static void fewestThatCanNotBe() {
        AT.sentence("15: NONE: it can't be", "");
        String tub = "stair(); boat(4, 0, 3)";
        row(3, 15, "write(50/50); " + tub + "; boat(0, 5, 0)");
        row(3, 15, "write(50/50); " + tub + "; boat(2, 4, 0)");
        row(-1, -1, "write(50/50); " + tub + "; boat(2, 5, 0)");
        row(-1, -1, "write(50/40); " + tub + "; boat(0, 5, 0)");
        row(-1, -1, "write(40/50); " + tub + "; boat(0, 5, 0)");
        row(3, 14, "write(40/50); " + tub + "; boat(0, 4, 0)");
        row(3, 14, "write(50/40); " + tub + "; boat(0, 4, 0)");
        row(-1, -1, "write(50/50/50/20); " + tub + "; boat(0, 3, 0)");
        row(-1, -1, "write(50/50/50/10); " + tub + "; boat(1, 3, 0)");
        // below the BOAT it matters no more
        row(1, 0, "write(20/50/50); " + tub + "; boat(0, 2, 0); day(9); rise(1)");
        AT.sentence("15: NONE: the CARRIER can't bring the water up", "");
        // it pours ahead from the river, but comes no higher itself, unless it FLOATS
        row(3, 11, "write(20/20); stair(); boat(3, 3, 1); boat(0, 1, 0)");
        row(-1, -1, "write(20/20/20); stair(); boat(3, 3, 1); boat(0, 1, 0)");
        row(9, 11, "write(20/20/20); stair(); boat(3, 2, 1); boat(0, 1, 0)");
        row(7, 11, "write(20/20/20); stair(); boat(3, 1, 1); boat(0, 1, 0)");
    }

    private static void fewestWhileWaterIsEnough() {
        AT.sentence("by which the BOAT is in the top BASIN: it RISES alone, where it can",
                "write(50/50/50/50); stair(); boat(3, 0, 1); boat(0, 2, 0)");
        row(3, 0, "day(9); day(3)");
        row(5, 11, "day(9); day(2)");
        row(3, 0, "day(9); day(9)");
    }

    /** Answers of the model: rows as long as these are past counting by hand. */
    private static void fewestOfLongRows() {
        AT.sentence("the fewest ACTS, where they are many", "write(50/50/50/50); stair()");
        row(18, 13, "boat(4, 0, 2); boat(0, 5, 0)");
        row(20, 13, "boat(3, 0, 3); boat(0, 5, 0)");
        row(11, 14, "boat(4, 0, 3); boat(0, 4, 0)");
        row(-1, -1, "boat(4, 0, 2); boat(2, 5, 0)");
        // the start with the longest queue that was found, see NOTES.md
        row(11, 0, "boat(4, 0, 3); boat(0, 5, 0); take(0, 5); pour(0, 1); take(0, 3); rise(0)");
    }

    private static void fewestTakesWhatIsThere() {
        AT.sentence("TAKES any number: what a BASIN above gives it has fewer then",
                "write(50/50/50); stair(); boat(3, 0, 1); boat(0, 2, 0)");
        // 2 in BASIN 1, 1 at the top: the one that lacks must not be of those 2
        row(5, 0, "take(0, 1); pour(0, 1); take(0, 1); pour(0, 1); "
                + "take(0, 1); rise(0); pour(0, 1); down(0)");
        // 3 in BASIN 1: there is one to spare, from where the CARRIER is
        row(4, 0, "take(0, 1); pour(0, 1); take(0, 1); pour(0, 1); take(0, 1); pour(0, 1); "
                + "take(0, 1); rise(0); pour(0, 1)");
        // 2 in BASIN 1: it has to come down and up again
        row(6, 0, "take(0, 1); pour(0, 1); take(0, 1); pour(0, 1); "
                + "take(0, 1); rise(0); pour(0, 1)");
    }

    private static void firstOfEachAct() {
        AT.sentence("0 the BOAT RISES, 1 the CARRIER RISES, 2 it comes DOWN, 3 it POURS into its own "
                + "BASIN, 4 into the next one, 10 and k: it TAKES k",
                "write(50/50); stair(); boat(4, 0, 3)");
        row(1, 0, "boat(0, 0, 0)");
        row(2, 3, "boat(0, 5, 0); take(0, 5); rise(0)");
        row(2, 4, "boat(0, 5, 0); take(0, 5)");
        row(4, 2, "boat(0, 5, 0); rise(0)");
        for (int k = 1; k <= 5; k++) {
            row(3, 10 + k, "boat(0, " + k + ", 0)");
        }
        AT.sentence("1 the CARRIER RISES", "write(50/50/50); stair(); boat(3, 0, 1); boat(0, 1, 0); "
                + "take(0, 1); pour(0, 1); rise(1); take(0, 1)");
        row(3, 1, "");
    }

    private static void firstIsTheLeast() {
        AT.sentence("of all that begin such a row the least", "write(50/50/50); stair(); "
                + "boat(3, 0, 1); boat(0, 1, 0)");
        // the BOAT may rise first or the CARRIER take first
        row(5, 0, "take(0, 1); pour(0, 1)");
        AT.sentence("as above: to take 1 is as short as to take 2 or 3", "write(50/50/50); stair(); "
                + "boat(3, 0, 3); boat(0, 1, 0)");
        row(7, 11, "");
        AT.sentence("as above: the BOAT RISES, or the CARRIER POURS ahead", "write(50/10/50); "
                + "stair(); boat(3, 0, 1); boat(0, 1, 0)");
        row(3, 0, "take(0, 1); pour(0, 1); take(0, 1); rise(0)");
        AT.sentence("as above: into its own BASIN, or ahead, whence it runs over",
                "write(50/51/10); stair(); boat(3, 0, 1); boat(0, 1, 0); take(0, 1); day(3)");
        row(2, 3, "rise(0); rise(1); day(0)");
    }

    private static void fewestUnknown() {
        AT.sentence("15: UNKNOWN: boat, carrier, or they are the same", Edges.RICH);
        for (String not : NO_BOATS) {
            AT.refused(Edges.UNKNOWN, "fewest(" + not + ", 0, 0)");
            AT.refused(Edges.UNKNOWN, "fewest(1, " + not + ", 0)");
            AT.refused(Edges.UNKNOWN, "fewest(" + not + ", " + not + ", 0)");
            AT.refused(Edges.UNKNOWN, "fewest(" + not + ", 1, 2)");
            AT.refused(Edges.UNKNOWN, "fewest(1, " + not + ", -1)");
        }
        for (int i = 0; i < 3; i++) {
            AT.refused(Edges.UNKNOWN, "fewest(" + i + ", " + i + ", 0)");
            AT.refused(Edges.UNKNOWN, "fewest(" + i + ", " + i + ", 2)");
        }
        AT.is(2, "fewest(0, 2, 0); fewest(2, 0, 0)");
    }

    private static void fewestOutside() {
        AT.sentence("15: what = 0 how many, 1 the first; OUTSIDE", Edges.RICH);
        for (String not : new String[] {"MIN", "-1", "2", "MAX"}) {
            AT.refused(Edges.OUTSIDE, "fewest(1, 0, " + not + ")");
            AT.refused(Edges.OUTSIDE, "fewest(0, 1, " + not + ")");
        }
        AT.is(2, "fewest(1, 0, 0)");
        AT.is(0, "fewest(1, 0, 1)");
    }

    private static void fewestByNoCarrier() {
        AT.sentence("15: STATE: the other one is no CARRIER", "write(50/50); stair(); boat(0, 0, 0); "
                + "boat(1, 0, 0); boat(2, 0, 0); boat(3, 0, 1); boat(4, 0, 1)");
        for (int boat = 0; boat < 5; boat++) {
            for (int other = 0; other < 5; other++) {
                if (other != boat && other < 3) {
                    AT.refused(Edges.STATE, "fewest(" + boat + ", " + other + ", 0)");
                    AT.refused(Edges.STATE, "fewest(" + boat + ", " + other + ", 1)");
                } else if (other != boat) {
                    AT.is(boat == 2 ? 3 : 1, "fewest(" + boat + ", " + other + ", 0)");
                }
            }
        }
    }

    private static void fewestDoneFortyTimes() {
        String made = "write(50/50); stair(); boat(0, 0, 0); boat(3, 0, 1); boat(2, 5, 0)";
        String done = "fewest(0, 1, 0)";
        AT.sentence("15: STATE: or fewest() was done 40 times", made);
        AT.is(1, Script.times(40, done));
        AT.is(40, Script.times(40, done) + "; count(7)");
        AT.is(0, Script.times(39, done) + "; fewest(0, 1, 1)");
        AT.is(-1, Script.times(39, done) + "; fewest(2, 1, 0)");
        AT.refused(Edges.STATE, Script.times(40, done) + "; " + done);
        AT.refused(Edges.STATE, Script.times(40, done) + "; fewest(0, 1, 1)");
        AT.refused(Edges.STATE, Script.times(40, "fewest(2, 1, 0)") + "; " + done);
        AT.refused(Edges.STATE, "rise(0); " + Script.times(40, "fewest(0, 1, 1)") + "; " + done);
        AT.is(40, Script.times(45, done) + "; count(7)");
        AT.sentence("15: 40 times, and of several refusals the first", made + "; "
                + Script.times(40, done));
        AT.refused(Edges.UNKNOWN, "fewest(0, 0, 0)");
        AT.refused(Edges.UNKNOWN, "fewest(3, 1, 0)");
        AT.refused(Edges.OUTSIDE, "fewest(0, 1, 2)");
        AT.refused(Edges.STATE, "fewest(1, 0, 0)");
        AT.refused(Edges.STATE, "image(); restore(); " + done);
        AT.refused(Edges.STATE, "write(50/50); stair(); boat(0, 0, 0); boat(3, 0, 1); " + done);
    }

    private static void fewestRefusedIsNotDone() {
        AT.sentence("Refusals change nothing: a refused fewest() was not done", Edges.RICH);
        String refused = "fewest(1, 1, 0); fewest(3, 0, 0); fewest(1, 0, 2); fewest(0, 1, 0)";
        AT.is(0, refused + "; count(7)");
        AT.is(1, refused + "; fewest(1, 0, 0); " + refused + "; count(7)");
        AT.is(2, Script.times(39, "fewest(1, 0, 0)") + "; " + refused + "; fewest(1, 0, 0)");
        AT.refused(Edges.STATE, Script.times(40, "fewest(1, 0, 0)") + "; fewest(1, 0, 0)");
    }

    private static void lacks() {
        AT.sentence("LACKS: how many BUCKETS the next BASIN has too few for a BOAT to RISE (0: it has "
                + "enough)", "write(50/50); stair()");
        for (int needs = 0; needs <= 5; needs++) {
            for (int has = 0; has <= 5; has++) {
                AT.is(Math.max(0, needs - has),
                        "boat(0, " + needs + ", 0); day(" + has + "); lacks(0)");
            }
        }
        AT.is(5, "boat(2, 4, 0); lacks(0)");
        AT.is(3, "boat(1, 5, 0); lacks(0)");
        AT.sentence("whether the BOAT FLOATS or not", "write(10/50); stair(); boat(0, 3, 0)");
        AT.is(0, "about(0, 7)");
        AT.is(3, "lacks(0)");
        AT.is(1, "day(2); lacks(0)");
        AT.is(0, "day(3); lacks(0)");
        AT.is(0, "day(4); lacks(0)");
    }

    private static void lacksNone() {
        AT.sentence("none, if it is at the top, or that BASIN can't hold so many", "");
        for (int holds = 1; holds <= 5; holds++) {
            String stair = "write(50/" + holds + "0); stair(); ";
            AT.is(holds, stair + "boat(0, " + holds + ", 0); lacks(0)");
            AT.is(holds, stair + "boat(2, " + (holds - 1) + ", 0); lacks(0)");
            AT.is(-1, stair + "boat(2, " + holds + ", 0); lacks(0)");
            AT.is(-1, stair + "boat(2, " + holds + ", 0); day(9); lacks(0)");
            AT.is(0, stair + "boat(0, 0, 0); lacks(0)");
            AT.is(-1, stair + "boat(0, 0, 0); rise(0); lacks(0)");
        }
        AT.is(-1, "write(50/10/50); stair(); boat(0, 2, 0); day(9); lacks(0)");
        AT.is(0, "write(50/50/10); stair(); boat(0, 2, 0); day(9); lacks(0)");
        AT.is(-1, "write(50/50/10); stair(); boat(0, 2, 0); day(9); rise(0); lacks(0)");
    }

    private static void lacksUnknown() {
        AT.sentence("16: UNKNOWN", Edges.RICH);
        AT.is(0, "lacks(0)");
        AT.is(0, "lacks(2)");
        for (String not : NO_BOATS) {
            AT.refused(Edges.UNKNOWN, "lacks(" + not + ")");
        }
    }

    private static void lasts() {
        AT.sentence("LASTS: behind how many DAYS without RAIN a BASIN is dry (0: it is)", "");
        for (int leaks = 1; leaks <= 5; leaks++) {
            String stair = "write(50/5" + leaks + "); stair(); boat(4, 0, 3)";
            AT.is(0, stair + "; lasts(1)");
            for (int has = 1; has <= 5; has++) {
                int days = 0;
                for (int left = has; left > 0; left -= leaks) {
                    days++;
                }
                String poured = stair + "; take(0, " + has + "); pour(0, 1); ";
                AT.is(days, poured + "lasts(1)");
                AT.is(0, poured + Script.times(days, "day(0)") + "; lasts(1)");
                AT.is(1, poured + Script.joined(days > 1 ? Script.times(days - 1, "day(0)") : "",
                        "lasts(1)"));
            }
        }
    }

    private static void lastsNever() {
        AT.sentence("LASTS none: never", "write(55/50); stair()");
        AT.is(-1, "lasts(0)");
        AT.is(0, "lasts(1)");
        AT.is(-1, "day(1); lasts(1)");
        AT.is(-1, "day(9); lasts(1)");
        AT.sentence("THE RIVER is never dry, though it LEAKS", "write(15/51); stair()");
        AT.is(-1, "lasts(0)");
    }

    private static void lastsUnknown() {
        for (int n = 2; n <= 4; n++) {
            AT.sentence("17: UNKNOWN", "write(51" + "/51".repeat(n - 1) + "); stair(); day(9)");
            AT.is(4, "lasts(" + (n - 1) + ")");
            AT.is(-1, "lasts(0)");
            for (String not : new String[] {"MIN", "-1", "" + n, "" + (n + 1), "MAX"}) {
                AT.refused(Edges.UNKNOWN, "lasts(" + not + ")");
            }
        }
    }

    private static void linedDays() {
        AT.sentence("LINED for so many DAYS (1 to 9); 18: OUTSIDE: days", Edges.RICH);
        for (int days = 1; days <= 9; days++) {
            AT.is(1, "lined(" + days + ")");
        }
        for (String not : new String[] {"MIN", "-1", "0", "10", "MAX"}) {
            AT.refused(Edges.OUTSIDE, "lined(" + not + ")");
        }
        AT.sentence("18: of several refusals the first: OUTSIDE, STATE", "");
        AT.refused(Edges.OUTSIDE, "lined(0)");
        AT.refused(Edges.OUTSIDE, "lined(10)");
        AT.refused(Edges.STATE, "lined(1)");
        AT.refused(Edges.STATE, "lined(9)");
    }

    private static void linedOfLikeOnes() {
        AT.sentence("of like ones the least", "write(50/51/51); stair()");
        AT.is(1, "lined(1)");
        AT.is(1, "lined(9)");
        // 4 at the top, 1 below it
        AT.is(1, "day(7); lined(1)");
        AT.is(2, "day(7); lined(2)");
        AT.is(2, "day(5); lined(1)");
        AT.sentence("as above, of three", "write(50/50/51/51); stair()");
        AT.is(1, "lined(1)");
        AT.is(2, "day(7); lined(1)");
        AT.is(3, "day(7); lined(2)");
        AT.sentence("as above, of one", "write(50/50); stair()");
        AT.is(1, "lined(1)");
        AT.is(1, "day(9); lined(9)");
        AT.sentence("BASIN 0 is none of them", "write(55/50/51); stair()");
        AT.is(1, "lined(1)");
        AT.is(2, "day(9); lined(1)");
        AT.is(1, "day(1); lined(9)");
    }

    private static String chance(Object basin, Object days, Object tenths, Object need, Object part) {
        return "chance(" + basin + ", " + days + ", " + tenths + ", " + need + ", " + part + ")";
    }

    private static void chanceBasins() {
        AT.sentence("CHANCE of a BASIN (not 0); 19: UNKNOWN: basin (0, too)", Edges.RICH);
        AT.is(1, chance(1, 1, 5, 0, 0));
        AT.is(1, chance(2, 1, 5, 0, 0));
        for (String not : new String[] {"MIN", "-1", "0", "3", "4", "MAX"}) {
            AT.refused(Edges.UNKNOWN, chance(not, 1, 5, 0, 0));
            AT.refused(Edges.UNKNOWN, chance(not, 0, 5, 0, 0));
            AT.refused(Edges.UNKNOWN, chance(not, 1, 11, 0, 0));
            AT.refused(Edges.UNKNOWN, chance(not, 1, 5, 6, 0));
            AT.refused(Edges.UNKNOWN, chance(not, 1, 5, 0, 2));
        }
    }

    private static void chanceBounds() {
        AT.sentence("DAYS (1 to 9), TENTHS (0 to 10), so many (0 to 5), part 0 above, 1 below; "
                + "19: OUTSIDE: days, tenths, need, part", Edges.RICH);
        for (int part = 0; part <= 1; part++) {
            AT.is(1, chance(1, 1, 0, 0, part));
            AT.is(1, chance(1, 9, 0, 0, part));
            AT.is(1, chance(1, 1, 10, 0, part));
            AT.is(1, chance(2, 9, 10, 0, part));
            AT.is(part, chance(1, 1, 10, 5, part));
        }
        String[][] not = {{"MIN", "-1", "0", "10", "MAX"}, {"MIN", "-1", "11", "MAX"},
            {"MIN", "-1", "6", "MAX"}, {"MIN", "-1", "2", "MAX"}};
        for (String n : not[0]) {
            AT.refused(Edges.OUTSIDE, chance(1, n, 5, 1, 0));
        }
        for (String n : not[1]) {
            AT.refused(Edges.OUTSIDE, chance(1, 1, n, 1, 0));
        }
        for (String n : not[2]) {
            AT.refused(Edges.OUTSIDE, chance(1, 1, 5, n, 0));
        }
        for (String n : not[3]) {
            AT.refused(Edges.OUTSIDE, chance(1, 1, 5, 1, n));
        }
        AT.refused(Edges.OUTSIDE, chance(2, 10, 11, 6, 2));
    }

    /** CHANCE as a fraction. */
    private static void likely(long above, long below, String ahead, int... told) {
        for (int part = 0; part <= 1; part++) {
            AT.is(part == 0 ? above : below,
                    Script.joined(ahead, chance(told[0], told[1], told[2], told[3], part)));
        }
    }

    private static void chanceOfNoneAndAll() {
        AT.sentence("a BUCKET rains into it by TENTHS (0 to 10)", "write(50/50); stair()");
        likely(1, 1, "", 1, 1, 0, 0);
        likely(0, 1, "", 1, 1, 0, 1);
        likely(0, 1, "", 1, 9, 0, 1);
        likely(1, 1, "", 1, 1, 10, 1);
        likely(0, 1, "", 1, 1, 10, 2);
        likely(1, 1, "", 1, 5, 10, 5);
        likely(0, 1, "", 1, 4, 10, 5);
        likely(1, 1, "", 1, 9, 10, 5);
        likely(1, 10, "", 1, 1, 1, 1);
        likely(9, 10, "", 1, 1, 9, 1);
        likely(1, 1, "day(5)", 1, 9, 0, 5);
        likely(0, 1, "day(4)", 1, 9, 0, 5);
        likely(1, 1, "day(4)", 1, 1, 10, 5);
    }

    private static void chanceOfAFullBasin() {
        AT.sentence("if it HOLDS one more; then it LEAKS", "write(50/21); stair(); boat(3, 0, 2)");
        String one = "take(0, 1); pour(0, 1)";
        String full = "take(0, 2); pour(0, 1)";
        likely(0, 1, "", 1, 1, 10, 1);
        likely(2, 5, one, 1, 1, 4, 1);
        likely(0, 1, one, 1, 1, 10, 2);
        likely(1, 1, full, 1, 1, 0, 1);
        likely(1, 1, full, 1, 1, 10, 1);
        likely(0, 1, full, 1, 1, 10, 2);
        likely(2, 5, full, 1, 2, 4, 1);
        likely(4, 25, full, 1, 3, 4, 1);
        AT.sentence("of a BASIN that LEAKS more than it has", "write(50/55); stair()");
        likely(1, 1, "", 1, 9, 10, 0);
        likely(0, 1, "", 1, 9, 10, 1);
    }

    private static void chanceInLowestTerms() {
        AT.sentence("19: in lowest terms", "write(50/50); stair()");
        likely(1, 2, "", 1, 1, 5, 1);
        likely(1, 2, "", 1, 9, 5, 5);
        likely(612579511L, 1000000000L, "", 1, 9, 1, 1);
        likely(22273, 25000000, "", 1, 9, 1, 5);
        likely(511, 512, "", 1, 9, 5, 1);
        likely(1, 100000, "", 1, 5, 1, 5);
        likely(59049, 100000, "", 1, 5, 9, 5);
    }
}
