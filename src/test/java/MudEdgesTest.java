import java.math.BigInteger;

/** The bounds that promises 20 to 24 and section 3 name, a sentence each. */
public final class MudEdgesTest {
    private static final Edges AT = new Edges();
    private static final String[] NO_BOATS = {"MIN", "-1", "3", "4", "5", "MAX"};

    public static void main(String[] args) {
        mudBasins();
        mudBuckets();
        anotherMudIsGone();
        sevenLines();
        lineBuckets();
        lineRefusedInOrder();
        pouredWithoutMud();
        pouredOnOneDayOrNone();
        pouredByCarriersAlone();
        pouredAsMuchAsItCarries();
        whatItCanNotHoldIsGone();
        thenItLeaks();
        linesThatCanNotBe();
        mostWays();
        sureDays();
        sureNone();
        sureRefused();
        weeksDays();
        weeksSeeds();
        weeksWhats();
        weeksRefusedInOrder();
        seedWraps();
        draws();
        weeksAsTheyWouldBe();
        AT.end("MudEdgesTest");
    }

    private static void mudBasins() {
        for (int n = 2; n <= 4; n++) {
            AT.sentence("MUD: of a BASIN (not 0); 20: UNKNOWN: basin (0, too)",
                    "write(51" + "/42".repeat(n - 1) + "); stair(); mud(1, 2); line(1)");
            AT.is(4, "mud(1, 0)");
            AT.is(4, "mud(" + (n - 1) + ", 0)");
            for (String not : new String[] {"MIN", "-1", "0", "" + n, "" + (n + 1), "MAX"}) {
                AT.refused(Edges.UNKNOWN, "mud(" + not + ", 0)");
                AT.refused(Edges.UNKNOWN, "mud(" + not + ", -1)");
                AT.refused(Edges.UNKNOWN, "mud(" + not + ", 6)");
            }
        }
    }

    private static void mudBuckets() {
        AT.sentence("20: OUTSIDE: buckets (0 to HOLDS)", "");
        for (int holds = 1; holds <= 5; holds++) {
            String stair = "write(50/" + holds + "0); stair(); boat(3, 0, 1); ";
            for (int from = 0; from <= holds; from++) {
                AT.is(holds, stair + "mud(1, " + from + ")");
                AT.is(from == holds ? 2 : 1,
                        stair + "mud(1, " + from + "); line(" + from + "); poured()");
            }
            for (String not : new String[] {"MIN", "-1", "" + (holds + 1), "6", "MAX"}) {
                AT.refused(Edges.OUTSIDE, stair + "mud(1, " + not + ")");
                AT.refused(Edges.OUTSIDE, stair + "mud(1, 1); mud(1, " + not + ")");
            }
        }
        AT.sentence("20: OUTSIDE, with another one there", Edges.RICH);
        AT.refused(Edges.OUTSIDE, "mud(1, 5)");
        AT.refused(Edges.OUTSIDE, "mud(2, 4)");
        AT.is(4, "mud(1, 4)");
        AT.is(3, "mud(2, 3)");
    }

    private static void anotherMudIsGone() {
        AT.sentence("20: another one is gone", "write(50/50/30); stair(); boat(3, 0, 2); mud(1, 0); "
                + Script.times(7, "line(0)"));
        AT.is(7, "count(4)");
        AT.is(0, "mud(1, 0); count(4)");
        AT.is(1, "mud(1, 0); line(5)");
        AT.is(1, "mud(2, 1); line(3); poured()");
        AT.is(0, "mud(2, 0); line(3); poured()");
        AT.is(7, "mud(2, 4); count(4)");
        AT.is(7, "mud(2, 0); " + Script.times(7, "line(1)"));
    }

    private static void sevenLines() {
        AT.sentence("so many lines (seven at most); 21: FULL", "write(50/50); stair(); mud(1, 0)");
        for (int n = 1; n <= 7; n++) {
            AT.is(n, Script.times(n, "line(5)"));
            AT.is(n, Script.times(n, "line(0)") + "; count(4)");
        }
        for (int buckets = 0; buckets <= 5; buckets++) {
            AT.refused(Edges.FULL, Script.times(7, "line(0)") + "; line(" + buckets + ")");
        }
        AT.is(7, Script.times(9, "line(0)") + "; count(4)");
        AT.is(7, Script.times(6, "line(0)") + "; image(); line(0); restore(); line(1)");
    }

    private static void lineBuckets() {
        AT.sentence("21: OUTSIDE: buckets (0 to 5)", Edges.RICH);
        for (int buckets = 0; buckets <= 5; buckets++) {
            AT.is(3, "line(" + buckets + ")");
        }
        for (String not : new String[] {"MIN", "-1", "6", "MAX"}) {
            AT.refused(Edges.OUTSIDE, "line(" + not + ")");
            AT.refused(Edges.OUTSIDE, "mud(2, 3); line(" + not + ")");
        }
    }

    private static void lineRefusedInOrder() {
        AT.sentence("21: of several refusals the first: STATE, OUTSIDE, FULL",
                "write(50/50); stair()");
        AT.refused(Edges.STATE, "line(0)");
        AT.refused(Edges.STATE, "line(6)");
        AT.refused(Edges.STATE, "line(-1)");
        AT.refused(Edges.STATE, "mud(0, 0); line(0)");
        AT.refused(Edges.STATE, "mud(1, 6); line(0)");
        AT.is(1, "mud(1, 5); line(0)");
        AT.refused(Edges.OUTSIDE, "mud(1, 0); " + Script.times(7, "line(0)") + "; line(6)");
        AT.refused(Edges.OUTSIDE, "mud(1, 0); " + Script.times(7, "line(0)") + "; line(-1)");
        AT.refused(Edges.FULL, "mud(1, 0); " + Script.times(7, "line(0)") + "; line(5)");
    }

    private static void pouredWithoutMud() {
        AT.sentence("22: STATE: no MUD", "write(50/50); stair(); boat(3, 0, 1)");
        AT.refused(Edges.STATE, "poured()");
        AT.refused(Edges.STATE, "mud(0, 0); poured()");
        AT.is(1, "mud(1, 0); poured()");
        AT.refused(Edges.STATE, "mud(1, 0); write(50/50); stair(); poured()");
        AT.refused(Edges.STATE, "image(); mud(1, 0); restore(); poured()");
    }

    private static void pouredOnOneDayOrNone() {
        AT.sentence("each CARRIER, on one of these DAYS or on none", "write(50/55); stair(); "
                + "boat(3, 0, 1); mud(1, 0)");
        for (int lines = 0; lines <= 7; lines++) {
            String told = Script.times(lines, "line(0)");
            AT.is(lines + 1, Script.joined(told, "poured()"));
            AT.is((lines + 1) * (lines + 1), Script.joined(told, "boat(4, 0, 1); poured()"));
        }
        AT.sentence("on one of them alone", "write(50/50); stair(); boat(3, 0, 1); mud(1, 0)");
        AT.is(1, "line(1); line(1); poured()");
        AT.is(0, "line(1); line(2); poured()");
        AT.is(2, "line(1); line(2); boat(3, 0, 1); poured()");
    }

    private static void pouredByCarriersAlone() {
        AT.sentence("each CARRIER (a TUB is a CARRIER, too)", "write(50/55); stair(); mud(1, 0); "
                + "line(0)");
        for (int kind = 0; kind <= 2; kind++) {
            AT.is(1, "boat(" + kind + ", 0, 0); poured()");
        }
        AT.is(2, "boat(3, 0, 1); poured()");
        AT.is(2, "boat(4, 0, 1); poured()");
        AT.is(1, "poured()");
        AT.sentence("wherever it is, whatever its LOAD", "write(50/55); stair(); mud(1, 0); line(0); "
                + "boat(3, 5, 1)");
        AT.is(2, "poured()");
        AT.is(2, "take(0, 1); poured()");
    }

    private static void pouredAsMuchAsItCarries() {
        AT.sentence("as much as it CARRIES", "write(50/50); stair(); mud(1, 0)");
        for (int can = 1; can <= 3; can++) {
            for (int line = 0; line <= 5; line++) {
                AT.is(line == 0 || line == can ? 1 : 0,
                        "boat(3, 0, " + can + "); line(" + line + "); poured()");
                AT.is(line == 0 || line == Math.min(5, 2 * can) ? 1 : 0,
                        "boat(4, 0, " + can + "); line(" + line + "); poured()");
            }
        }
    }

    private static void whatItCanNotHoldIsGone() {
        AT.sentence("what it can't hold is gone", "write(50/30); stair(); boat(3, 0, 2)");
        AT.is(1, "mud(1, 1); line(3); poured()");
        AT.is(1, "mud(1, 2); line(3); poured()");
        AT.is(0, "mud(1, 2); line(4); poured()");
        AT.is(2, "mud(1, 3); line(3); poured()");
        AT.is(0, "mud(1, 3); line(5); poured()");
        AT.is(0, "mud(1, 0); line(3); poured()");
        AT.is(1, "mud(1, 0); line(2); line(2); poured()");
        AT.is(0, "mud(1, 3); line(5); line(3); poured()");
    }

    private static void thenItLeaks() {
        AT.sentence("then it LEAKS", "write(50/32); stair(); boat(3, 0, 1)");
        // 3 less 2, 2 less 2, 1 less 2: none at least
        AT.is(2, "mud(1, 3); line(1); poured()");
        AT.is(1, "mud(1, 2); line(1); poured()");
        AT.is(1, "mud(1, 2); line(0); poured()");
        AT.is(2, "mud(1, 1); line(0); poured()");
        AT.is(2, "mud(1, 0); line(0); poured()");
        AT.is(0, "mud(1, 3); line(3); poured()");
        AT.is(3, "mud(1, 3); line(1); line(0); poured()");
    }

    private static void linesThatCanNotBe() {
        AT.sentence("so that all lines hold", "write(50/50); stair(); boat(4, 0, 2); mud(1, 1)");
        AT.is(1, "poured()");
        AT.is(1, "line(1); poured()");
        AT.is(0, "line(0); poured()");
        AT.is(0, "line(0); line(0); poured()");
        AT.is(1, "line(1); line(5); line(5); poured()");
        AT.is(0, "line(1); line(5); line(4); poured()");
        AT.is(0, "line(4); line(5); poured()");
    }

    private static void mostWays() {
        AT.sentence("in how many ways: five CARRIERS, seven DAYS", "write(50/55); stair(); "
                + Script.times(5, "boat(4, 5, 3)") + "; mud(1, 5)");
        AT.is(32768, Script.times(7, "line(0)") + "; poured()");
        AT.is(16807, Script.times(6, "line(0)") + "; poured()");
        AT.is(1, "poured()");
        AT.is(0, Script.times(6, "line(0)") + "; line(1); poured()");
    }

    private static void sureDays() {
        AT.sentence("SURE: the DAY (from 1; 0: none) on which one poured in all of these", "");
        for (int day = 0; day <= 7; day++) {
            String lines = Script.joined(Script.times(day == 0 ? 7 : day - 1, "line(0)"),
                    Script.times(day == 0 ? 0 : 8 - day, "line(2)"));
            AT.is(day, "write(50/50); stair(); boat(3, 0, 2); mud(1, 0); " + lines + "; sure(0)");
            AT.is(day, "write(50/50/50); stair(); boat(0, 0, 0); boat(4, 0, 1); mud(2, 0); " + lines
                    + "; sure(1)");
        }
        AT.is(0, "write(50/50); stair(); boat(3, 0, 2); mud(1, 0); sure(0)");
    }

    private static void sureNone() {
        AT.sentence("23: NONE: it is not, or there are no such ways", "write(50/50); stair(); "
                + "boat(3, 0, 2); boat(3, 0, 2); mud(1, 0)");
        AT.is(0, "line(0); sure(0)");
        AT.is(-1, "line(2); sure(0)");
        AT.is(-1, "line(2); sure(1)");
        AT.is(1, "line(4); sure(0)");
        AT.is(1, "line(4); sure(1)");
        AT.is(-1, "line(2); line(4); sure(1)");
        AT.is(-1, "line(1); sure(0)");
        AT.is(-1, "line(4); line(5); sure(0)");
        AT.sentence("as above: what is gone can't be seen", "write(50/50); stair(); boat(3, 0, 2)");
        AT.is(-1, "mud(1, 5); line(5); sure(0)");
        AT.is(1, "mud(1, 4); line(5); sure(0)");
        AT.is(0, "mud(1, 4); line(4); sure(0)");
    }

    private static void sureRefused() {
        AT.sentence("23: UNKNOWN; STATE: no MUD, or it is no CARRIER", Edges.RICH);
        for (String not : NO_BOATS) {
            AT.refused(Edges.UNKNOWN, "sure(" + not + ")");
        }
        AT.refused(Edges.STATE, "sure(1)");
        AT.refused(Edges.STATE, "boat(1, 0, 0); sure(3)");
        AT.refused(Edges.STATE, "boat(2, 0, 0); sure(3)");
        AT.is(1, "mud(2, 0); line(2); sure(0)");
        AT.is(1, "mud(2, 0); line(2); sure(2)");
        AT.sentence("23: no MUD", "write(50/50); stair(); boat(0, 0, 0); boat(3, 0, 1)");
        AT.refused(Edges.UNKNOWN, "sure(2)");
        AT.refused(Edges.STATE, "sure(0)");
        AT.refused(Edges.STATE, "sure(1)");
        AT.is(0, "mud(1, 0); sure(1)");
        AT.refused(Edges.STATE, "mud(1, 0); sure(0)");
    }

    private static void weeksDays() {
        AT.sentence("24: OUTSIDE: days (1 to 60)", Edges.RICH);
        for (String not : new String[] {"MIN", "-1", "0", "61", "MAX"}) {
            AT.refused(Edges.OUTSIDE, "weeks(" + not + ", 1, 0)");
        }
        for (int days : new int[] {1, 2, 59, 60}) {
            AT.is(seedBehind(days, 1), "weeks(" + days + ", 1, 2)");
            AT.is(seedBehind(days, 5), "weeks(" + days + ", 5, 2)");
        }
    }

    private static void weeksSeeds() {
        AT.sentence("24: OUTSIDE: seed (0 at least)", Edges.RICH);
        AT.refused(Edges.OUTSIDE, "weeks(1, -1, 0)");
        AT.refused(Edges.OUTSIDE, "weeks(1, MIN, 2)");
        AT.is(12345, "weeks(1, 0, 2)");
        AT.is(1103527590, "weeks(1, 1, 2)");
        AT.is(seedBehind(1, Integer.MAX_VALUE), "weeks(1, MAX, 2)");
        AT.is(seedBehind(60, Integer.MAX_VALUE), "weeks(60, MAX, 2)");
        AT.is(seedBehind(1, Integer.MAX_VALUE - 1), "weeks(1, " + (Integer.MAX_VALUE - 1) + ", 2)");
    }

    private static void weeksWhats() {
        AT.sentence("24: what = 0 how many BUCKETS, 1 how many BOATS FLOAT, 2 the SEED; OUTSIDE: what",
                Edges.RICH);
        // SEED 12345: no RAIN; 2 and 2 less LEAKS of 2 and 1
        AT.is(1, "weeks(1, 0, 0)");
        AT.is(3, "weeks(1, 0, 1)");
        AT.is(12345, "weeks(1, 0, 2)");
        for (String not : new String[] {"MIN", "-1", "3", "MAX"}) {
            AT.refused(Edges.OUTSIDE, "weeks(1, 0, " + not + ")");
        }
    }

    private static void weeksRefusedInOrder() {
        AT.sentence("24: of several refusals the first: OUTSIDE, STATE", "");
        AT.refused(Edges.OUTSIDE, "weeks(0, 0, 0)");
        AT.refused(Edges.OUTSIDE, "weeks(61, 0, 0)");
        AT.refused(Edges.OUTSIDE, "weeks(1, -1, 0)");
        AT.refused(Edges.OUTSIDE, "weeks(1, 0, 3)");
        AT.refused(Edges.STATE, "weeks(1, 0, 0)");
        AT.refused(Edges.STATE, "weeks(60, MAX, 2)");
        AT.is(12345, "write(10/10); stair(); weeks(1, 0, 2)");
    }

    private static final BigInteger TIMES = BigInteger.valueOf(1103515245);
    private static final BigInteger AND = BigInteger.valueOf(12345);
    private static final BigInteger REST = BigInteger.TWO.pow(31);

    private static int seedBehind(int days, int seed) {
        BigInteger s = BigInteger.valueOf(seed);
        for (int i = 0; i < days; i++) {
            s = s.multiply(TIMES).add(AND).mod(REST);
        }
        return s.intValueExact();
    }

    /** The SEED whose next one is that. */
    private static int seedAhead(long next) {
        return BigInteger.valueOf(next).subtract(AND).multiply(TIMES.modInverse(REST)).mod(REST)
                .intValueExact();
    }

    private static void seedWraps() {
        AT.sentence("its rest by 2 to the 31", "write(50/50); stair()");
        long most = Integer.MAX_VALUE;
        for (long next : new long[] {0, 1, 12344, 12345, 12346, most / 2, most - 1, most}) {
            AT.is(next, "weeks(1, " + seedAhead(next) + ", 2)");
            AT.is(seedBehind(1, (int) next), "weeks(2, " + seedAhead(next) + ", 2)");
        }
    }

    private static void draws() {
        AT.sentence("then that by 65536 (rounded down), its rest: a DRAW of 4",
                "write(50/50); stair()");
        for (long high : new long[] {0, 1, 2, 3, 4, 5, 7, 8, 32764, 32767}) {
            AT.is(high % 4, "weeks(1, " + seedAhead(high * 65536) + ", 0)");
            AT.is(high % 4, "weeks(1, " + seedAhead(high * 65536 + 65535) + ", 0)");
        }
    }

    private static void weeksAsTheyWouldBe() {
        AT.sentence("WEEKS by a SEED, as they would be", "write(50/31); stair(); boat(0, 2, 0); "
                + "boat(0, 1, 0); day(3); rise(0); rise(1)");
        int none = seedAhead(0);
        int three = seedAhead(3 * 65536);
        AT.is(2, "count(2)");
        AT.is(1, "weeks(1, " + none + ", 0)");
        AT.is(1, "weeks(1, " + none + ", 1)");
        // 2 and 3 are more than it HOLDS: 3 less 1
        AT.is(2, "weeks(1, " + three + ", 0)");
        AT.is(2, "weeks(1, " + three + ", 1)");
        AT.is(2, "weeks(60, 7, 0); weeks(60, 7, 1); count(2)");
        AT.is(1, "weeks(60, 7, 0); count(3)");
        AT.is(1, "day(0); count(2)");
    }
}
