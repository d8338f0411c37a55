import java.math.BigInteger;

/** The bounds that promises 25 to 28, the IMAGE and the limit of 512 calls name, a sentence each. */
public final class WholeEdgesTest {
    private static final Edges AT = new Edges();

    public static void main(String[] args) {
        imageWithoutStair();
        imageOfNoneToFive();
        latestImage();
        restoreOfNone();
        anotherStairSince();
        boatsSinceAreGone();
        imageKeeps();
        imageKeepsNot();
        countWhats();
        countOfTheMost();
        digestOfNothing();
        digestWraps();
        digestOfLetters();
        digestWithMudAlone();
        digestOfLinedForThree();
        askedTwice();
        lastOf512Calls();
        constants();
        AT.end("WholeEdgesTest");
    }

    private static void imageWithoutStair() {
        AT.sentence("25: STATE: there is no STAIR", "");
        AT.refused(Edges.STATE, "image()");
        AT.refused(Edges.STATE, "write(10/10); image()");
        AT.is(0, "write(10/10); stair(); image()");
        AT.refused(Edges.STATE, "image(); write(10/10); stair(); restore()");
    }

    private static void imageOfNoneToFive() {
        AT.sentence("25: An IMAGE is kept: how many BOATS", "write(10/10); stair()");
        for (int n = 0; n <= 5; n++) {
            String boats = Script.times(n, "boat(0, 0, 0)");
            AT.is(n, Script.joined(boats, "image()"));
            AT.is(n, Script.joined(boats, "image(); restore()"));
            AT.is(n, Script.joined(boats, "image(); boat(0, 0, 0); restore(); count(1)"));
        }
    }

    private static void latestImage() {
        AT.sentence("25: one; the latest", "write(50/50); stair(); boat(0, 0, 0); image(); day(3); "
                + "boat(0, 0, 0); image(); day(1)");
        AT.is(2, "restore()");
        AT.is(3, "restore(); count(2)");
        AT.is(2, "restore(); restore()");
        AT.is(4, "image(); day(1); restore(); count(2)");
        AT.is(2, "restore(); image(); restore(); count(3); count(1)");
    }

    private static void restoreOfNone() {
        AT.sentence("26: STATE: none was kept", "");
        AT.refused(Edges.STATE, "restore()");
        AT.refused(Edges.STATE, "write(50/50); stair(); restore()");
        AT.refused(Edges.STATE, "write(50/50); stair(); boat(3, 0, 1); day(2); restore()");
        AT.is(0, "write(50/50); stair(); image(); restore()");
    }

    private static void anotherStairSince() {
        AT.sentence("26: STATE: or there is another STAIR since", "write(50/50); stair(); "
                + "boat(3, 0, 1); image(); day(4)");
        AT.is(1, "restore()");
        AT.refused(Edges.STATE, "write(50/40); stair(); restore()");
        AT.refused(Edges.STATE, "write(50/50); stair(); restore()");
        AT.refused(Edges.STATE, "write(50/40); stair(); write(50/50); stair(); restore()");
        AT.is(0, "write(50/40); stair(); image(); restore()");
        AT.sentence("a stair() that was refused is none", "write(50/50); stair(); boat(3, 0, 1); "
                + "image(); day(4)");
        AT.is(1, "write(50/5); stair(); restore()");
        AT.is(0, "stair(); restore(); count(2)");
    }

    private static void boatsSinceAreGone() {
        AT.sentence("those that come since are gone by restore()", "write(50/50); stair(); "
                + "boat(3, 0, 1); image(); boat(4, 0, 2); take(1, 3); restore()");
        AT.is(1, "count(1)");
        AT.refused(Edges.UNKNOWN, "about(1, 0)");
        AT.refused(Edges.UNKNOWN, "fewest(0, 1, 0)");
        AT.is(1, "boat(0, 2, 0)");
        AT.is(0, "boat(0, 2, 0); about(1, 0)");
        AT.is(2, "boat(0, 2, 0); about(1, 1)");
        AT.is(0, "boat(0, 2, 0); about(1, 6)");
        AT.is(4, Script.times(4, "boat(0, 0, 0)"));
        AT.refused(Edges.FULL, Script.times(4, "boat(0, 0, 0)") + "; boat(0, 0, 0)");
    }

    private static void imageKeeps() {
        AT.sentence("An IMAGE keeps where they are, LOADS, BUCKETS, DAYS, MUD",
                "write(50/40/50); stair(); boat(4, 0, 3); boat(3, 0, 2); take(0, 5); rise(0); "
                + "take(1, 2); pour(1, 1); day(6); mud(1, 2); line(4); image(); "
                + "rise(0); pour(0, 0); take(1, 1); rise(1); day(9); mud(2, 5); line(5); line(5); "
                + "restore()");
        AT.is(1, "about(0, 5)");
        AT.is(5, "about(0, 6)");
        AT.is(0, "about(1, 5)");
        AT.is(0, "about(1, 6)");
        AT.is(3, "basin(1, 2)");
        AT.is(5, "basin(2, 2)");
        AT.is(1, "count(3)");
        AT.is(1, "count(4)");
        // from 2 on to 4, that the BASIN HOLDS: the TUB with its 6, the CARRIER with its 2, or both
        AT.is(3, "poured()");
        AT.is(-1, "sure(1)");
        AT.is(5, "line(4); poured()");
        AT.sentence("and that there is no MUD", "write(50/50); stair(); image(); mud(1, 0); line(0); "
                + "restore()");
        AT.refused(Edges.STATE, "poured()");
        AT.refused(Edges.STATE, "line(0)");
        AT.is(0, "count(4)");
    }

    private static void imageKeepsNot() {
        AT.sentence("what an IMAGE keeps not stays as it is", "write(50/50); stair(); "
                + "boat(0, 0, 0); boat(3, 0, 1); write(1234); fewest(0, 1, 0); image(); "
                + "write(56); fewest(0, 1, 0); restore()");
        AT.is(6, "count(5)");
        AT.is(2, "count(7)");
        AT.is(1, "count(6)");
        AT.is(0, "blank(); restore(); count(5)");
    }

    private static void countWhats() {
        AT.sentence("27: How many: 0 to 7; OUTSIDE", Edges.RICH);
        int[] want = {3, 3, 4, 2, 2, 1, 1, 0};
        for (int what = 0; what <= 7; what++) {
            AT.is(want[what], "count(" + what + ")");
        }
        for (String not : new String[] {"MIN", "-1", "8", "MAX"}) {
            AT.refused(Edges.OUTSIDE, "count(" + not + ")");
        }
        AT.sentence("27: OUTSIDE, without a STAIR", "");
        AT.refused(Edges.OUTSIDE, "count(-1)");
        AT.refused(Edges.OUTSIDE, "count(8)");
    }

    private static void countOfTheMost() {
        AT.sentence("27: as many as there can be", "write(50/50/50/50); stair(); "
                + Script.times(5, "boat(3, 0, 1)") + "; day(9); day(9); mud(3, 0); "
                + Script.times(7, "line(0)") + "; write(12345678901234); "
                + Script.times(40, "fewest(0, 1, 0)"));
        int[] want = {4, 5, 15, 2, 7, 14, 1, 40};
        for (int what = 0; what <= 7; what++) {
            AT.is(want[what], "count(" + what + ")");
        }
    }

    private static long folded(long... numbers) {
        return whole(numbers).longValue();
    }

    private static BigInteger whole(long... numbers) {
        BigInteger h = BigInteger.valueOf(653);
        for (long n : numbers) {
            h = h.multiply(BigInteger.valueOf(31)).add(BigInteger.valueOf(n));
        }
        return h;
    }

    private static void digestOfNothing() {
        AT.sentence("28: h is 653, then ... what count() tells for 0 to 7", "");
        AT.is(folded(0, 0, 0, 0, 0, 0, 0, 0), "digest()");
        AT.is(folded(0, 0, 0, 0, 0, 0, 0, 0), "image(); digest(); restore(); stair(); digest()");
    }

    private static void digestWraps() {
        AT.sentence("28: as longs, wrapping", "write(53/42); stair()");
        long[] numbers = {5, 3, 5, -1, 4, 2, 0, 0, 1, 2, 0, 0, 0, 0, 0, 1, 0};
        if (whole(numbers).bitLength() < 64) {
            throw new IllegalStateException("no number to wrap");
        }
        AT.is(folded(numbers), "digest()");
        AT.is(folded(5, 3, 5, -1, 4, 2, 0, 0, 2, 5, 0, 6, 0, 0, 0, 0, -1, 1, 2, 1, 0, 0, 0, 0, 1, 0),
                "boat(2, 5, 0); digest()");
        AT.is(folded(5, 3, 5, -1, 4, 2, 2, 1, 3, 0, 3, 0, 3, 1, 2, 1, -1, 1, 2, 1, 2, 1, 0, 0, 1, 0),
                "boat(3, 0, 3); take(0, 2); rise(0); day(9); digest()");
    }

    private static void digestOfLetters() {
        AT.sentence("28: letters of THE PAGE", "");
        AT.is(folded(1, 0, 0, 0, 0, 0, 1, 0, 0), "letters(1); digest()");
        AT.is(folded(126, 0, 0, 0, 0, 0, 1, 0, 0), "letters(126); digest()");
        AT.is(folded(49, 50, 51, 52, 53, 54, 55, 56, 57, 48, 49, 50, 51, 52, 0, 0, 0, 0, 0, 14, 0, 0),
                "write(12345678901234); digest()");
        AT.is(folded(0, 0, 0, 0, 0, 0, 0, 0), "write(12345678901234); blank(); digest()");
    }

    private static void digestWithMudAlone() {
        AT.sentence("28: of each line of MUD its BUCKETS; with MUD POURED", "write(11/50); stair()");
        AT.is(folded(1, 1, 1, -1, 5, 0, 0, 0, 1, 2, 0, 0, 0, 0, 0, 1, 0), "digest()");
        AT.is(folded(1, 1, 1, -1, 5, 0, 0, 0, 1, 1, 2, 0, 0, 0, 0, 0, 1, 0), "mud(1, 2); digest()");
        AT.is(folded(1, 1, 1, -1, 5, 0, 0, 0, 1, 2, 2, 2, 2, 2, 2, 2, 1, 2, 0, 0, 0, 7, 0, 1, 0),
                "mud(1, 2); " + Script.times(7, "line(2)") + "; digest()");
        AT.is(folded(1, 1, 1, -1, 5, 0, 0, 0, 1, 3, 0, 2, 0, 0, 0, 1, 0, 1, 0),
                "mud(1, 2); line(3); digest()");
        AT.is(folded(1, 1, 1, -1, 5, 0, 3, -1, 1, 2, 0, 3, 1, 0, 0, 1, 0), "day(3); digest()");
    }

    private static void digestOfLinedForThree() {
        // 4 at the top, 3 below it: two DAYS save 2 of either, three 3 of either, four 3 or 4
        AT.sentence("28: with a STAIR LINED for 3", "write(10/51/51); stair(); day(9)");
        AT.is(1, "lined(3)");
        AT.is(2, "lined(4)");
        AT.is(folded(1, 0, 1, -1, 5, 1, 3, 3, 5, 1, 4, 4, 1, 3, 0, 7, 1, 0, 0, 1, 0), "digest()");
        // 4 at the top, 2 below it
        AT.sentence("28: LINED for 3, not for 2", "write(10/51/51); stair(); day(8)");
        AT.is(1, "lined(2)");
        AT.is(2, "lined(3)");
        AT.is(folded(1, 0, 1, -1, 5, 1, 2, 2, 5, 1, 4, 4, 2, 3, 0, 6, 1, 0, 0, 1, 0), "digest()");
    }

    private static void askedTwice() {
        AT.sentence("what an earlier question found has no part in the next", "write(50/51); stair(); "
                + "boat(3, 0, 2); boat(0, 2, 0)");
        AT.is(0, "take(0, 2); pour(0, 1); chance(1, 1, 5, 1, 0); day(0); day(0); "
                + "chance(1, 1, 5, 1, 0)");
        AT.is(2, "mud(1, 0); line(1); poured(); sure(0); mud(1, 1); line(0); line(0); mud(1, 5); "
                + "line(4); poured()");
        AT.is(1, "mud(1, 0); line(1); sure(0); poured(); mud(1, 0); line(1); poured()");
        AT.is(0, "mud(1, 0); line(1); sure(0); mud(1, 2); line(1); sure(0)");
        AT.is(0, "mud(1, 0); line(1); poured(); write(50/51); stair(); boat(0, 0, 0); mud(1, 0); "
                + "line(1); poured()");
        AT.is(3, "fewest(1, 0, 0); fewest(1, 0, 0)");
        AT.is(1, "fewest(1, 0, 0); take(0, 2); pour(0, 1); fewest(1, 0, 0)");
        AT.is(3, "take(0, 2); pour(0, 1); fewest(1, 0, 0); day(2); day(0); day(0); day(0); day(0); "
                + "fewest(1, 0, 0)");
    }

    private static void lastOf512Calls() {
        AT.sentence("An object is used for at most 512 calls after it has been made",
                "write(50/51); stair(); boat(4, 0, 3)");
        // three calls were made ahead of these 509
        AT.is(508, Script.times(508, "day(9)") + "; count(3)");
        AT.is(4, Script.times(508, "day(9)"));
        AT.is(5, "boat(0, 0, 0); " + Script.times(254, "take(0, 5); pour(0, 0)"));
        AT.sentence("27: how often a STAIR was read", "");
        AT.is(2, Script.times(256, "write(11/11); stair()"));
        AT.is(255, Script.times(255, "write(11/11); stair()") + "; count(6)");
    }

    private static void constants() {
        AT.sentence("NONE = -1, UNKNOWN = -101, OUTSIDE = -102, STATE = -103, FULL = -104",
                "write(10/10); stair(); boat(0, 0, 0)");
        AT.is(WaterShoulders.NONE, "as(0, 1)");
        AT.is(WaterShoulders.UNKNOWN, "as(1, 1)");
        AT.is(WaterShoulders.OUTSIDE, "as(0, 5)");
        AT.is(WaterShoulders.STATE, "poured()");
        AT.is(WaterShoulders.FULL, Script.times(5, "boat(0, 0, 0)"));
    }
}
