/** The bounds that promises 1 to 6 and the terms of THE STAIR name, a sentence each. */
public final class StairEdgesTest {
    private static final Edges AT = new Edges();
    private static final String WHOLE = "11/11/11/11";

    public static void main(String[] args) {
        noStair();
        noBasins();
        upToEight();
        bytesAbove126();
        bytesBehindZero();
        above14();
        lettersRefusedInOrder();
        blank();
        faultOfWholeBeginnings();
        faultOfDigits();
        faultBehindTheLastBasin();
        faultIsTheFirst();
        basinsTwoToFour();
        holdsOneToFive();
        leaksNoneToFive();
        strokesBetween();
        stairIsNone();
        anotherIsGone();
        pageIsEmptyThen();
        basinNumbers();
        basinWhats();
        river();
        othersAreDryAtFirst();
        AT.end("StairEdgesTest");
    }

    private static void noStair() {
        AT.sentence("1: No STAIR.", "");
        for (int what = 0; what <= 7; what++) {
            AT.is(0, "count(" + what + ")");
        }
        String[] calls = {"stair()", "boat(0, 0, 0)", "day(0)", "lined(1)", "weeks(1, 0, 0)",
            "image()", "restore()", "line(0)", "poured()"};
        for (String call : calls) {
            AT.refused(Edges.STATE, call);
        }
        String[] boats = {"about(0, 0)", "as(0, 0)", "rise(0)", "take(0, 1)", "pour(0, 0)",
            "down(0)", "fewest(0, 1, 0)", "lacks(0)", "sure(0)"};
        for (String call : boats) {
            AT.refused(Edges.UNKNOWN, call);
        }
        AT.sentence("1: with the least STAIR there is one", "write(10/10); stair()");
        AT.is(0, "boat(0, 0, 0)");
        AT.is(0, "day(0)");
        AT.is(1, "lined(1)");
        AT.is(0, "weeks(1, 0, 0)");
        AT.is(0, "image()");
    }

    private static void noBasins() {
        AT.sentence("Without a STAIR there are no BASINS", "");
        AT.is(0, "count(0)");
        for (int i = 0; i < 4; i++) {
            AT.refused(Edges.UNKNOWN, "basin(" + i + ", 0)");
            AT.refused(Edges.UNKNOWN, "lasts(" + i + ")");
            AT.refused(Edges.UNKNOWN, "chance(" + i + ", 1, 5, 0, 0)");
            AT.refused(Edges.UNKNOWN, "mud(" + i + ", 0)");
        }
        AT.sentence("with a page that is not read yet there are none", "write(10/10)");
        AT.is(0, "count(0)");
        AT.refused(Edges.UNKNOWN, "basin(0, 0)");
        AT.is(1, "stair(); basin(0, 0)");
        AT.is(-1, "stair(); lasts(0)");
        AT.is(1, "stair(); chance(1, 1, 5, 0, 0)");
        AT.is(1, "stair(); mud(1, 0)");
    }

    private static String letters(long w) {
        return "letters(" + w + ")";
    }

    /** So many letters '1', as letters() takes them. */
    private static long ones(int n) {
        return Check.packed("1".repeat(n), 0);
    }

    private static void upToEight() {
        AT.sentence("2: Letters come behind THE PAGE, up to eight, until a byte that is 0", "");
        for (int n = 0; n <= 8; n++) {
            AT.is(n, letters(ones(n)));
            AT.is(n, letters(ones(n)) + "; count(5)");
            AT.is(n + 2, letters(ones(2)) + "; " + letters(ones(n)));
        }
        AT.sentence("2: the lowest byte first", "letters(0x31322f3031); stair()");
        AT.is(2, "count(0)");
        AT.is(1, "basin(0, 0)");
        AT.is(0, "basin(0, 1)");
        AT.is(2, "basin(1, 0)");
        AT.is(1, "basin(1, 1)");
    }

    private static void bytesAbove126() {
        AT.sentence("2: OUTSIDE: a byte above 126", "letters(0x35)");
        for (int place = 0; place < 8; place++) {
            long below = ones(place);
            AT.is(place + 2, letters(below | 1L << 8 * place));
            AT.is(place + 2, letters(below | 126L << 8 * place));
            for (long code : new long[] {127, 128, 129, 254, 255}) {
                AT.refused(Edges.OUTSIDE, letters(below | code << 8 * place));
            }
        }
    }

    private static void bytesBehindZero() {
        AT.sentence("2: OUTSIDE: one behind a 0 that is not 0", "letters(0x35)");
        for (int zero = 0; zero < 8; zero++) {
            AT.is(zero + 1, letters(ones(zero)));
            for (int behind = zero + 1; behind < 8; behind++) {
                AT.refused(Edges.OUTSIDE, letters(ones(zero) | 1L << 8 * behind));
                AT.refused(Edges.OUTSIDE, letters(ones(zero) | 126L << 8 * behind));
                AT.refused(Edges.OUTSIDE, letters(ones(zero) | 255L << 8 * behind));
            }
        }
    }

    private static void above14() {
        AT.sentence("2: FULL: above 14", "");
        for (int had = 6; had <= 14; had++) {
            String ahead = "write(" + "5".repeat(had) + "); ";
            int room = 14 - had;
            AT.is(14, ahead + letters(ones(room)));
            AT.is(had, ahead + letters(0));
            for (int n = room + 1; n <= 8; n++) {
                AT.refused(Edges.FULL, ahead + letters(ones(n)));
            }
        }
        AT.is(14, "write(55555555); " + letters(ones(7)) + "; " + letters(ones(6)));
    }

    private static void lettersRefusedInOrder() {
        AT.sentence("2: of several refusals the first: OUTSIDE, FULL", "write(11111111111111)");
        AT.refused(Edges.OUTSIDE, letters(127));
        AT.refused(Edges.OUTSIDE, letters('1' << 8));
        AT.refused(Edges.OUTSIDE, letters(-1));
        AT.refused(Edges.FULL, letters(126));
        AT.sentence("2: as above, all that there is", Edges.RICH);
        AT.refused(Edges.OUTSIDE, letters(Long.MIN_VALUE));
        AT.refused(Edges.FULL, "write(1111111); " + letters(ones(7)));
        AT.is(14, "write(1111111); " + letters(ones(6)));
    }

    private static void blank() {
        AT.sentence("3: THE PAGE is empty: how many letters it had", "");
        for (int n = 0; n <= 14; n++) {
            String ahead = "write(" + "7".repeat(n) + "); ";
            AT.is(n, ahead + "blank()");
            AT.is(0, ahead + "blank(); count(5)");
            AT.is(0, ahead + "blank(); blank()");
            AT.is(0, ahead + "blank(); fault()");
            AT.is(8, ahead + "blank(); " + letters(ones(8)));
        }
        AT.sentence("3: THE PAGE alone", Edges.RICH);
        AT.is(1, "blank()");
        AT.is(3, "blank(); count(0)");
        AT.is(3, "blank(); count(1)");
        AT.is(4, "blank(); count(2)");
        AT.is(2, "blank(); count(4)");
    }

    private static String faultOf(String text) {
        return Script.joined("blank()", "write(" + text + "); fault()");
    }

    private static void faultOfWholeBeginnings() {
        AT.sentence("4: how many letters it has, if there is none", "");
        for (String text : new String[] {WHOLE, "55/55/55/55", "10/50/15/55"}) {
            for (int n = 0; n <= text.length(); n++) {
                AT.is(n, faultOf(text.substring(0, n)));
                AT.is(n, faultOf(text.substring(0, n)) + "; count(5)");
            }
        }
    }

    /** The whole stair up to a place, and a letter there instead of its own, and the rest. */
    private static String changed(int place, char letter) {
        return WHOLE.substring(0, place) + letter + WHOLE.substring(place + 1);
    }

    private static void faultOfDigits() {
        AT.sentence("4: The place of the first letter that no STAIR has there", "");
        for (int place = 0; place < WHOLE.length(); place++) {
            String fits = place % 3 == 0 ? "15" : place % 3 == 1 ? "05" : "/";
            String not = place % 3 == 0 ? "06/" : place % 3 == 1 ? "6/7" : ".0:";
            for (char letter : fits.toCharArray()) {
                AT.is(WHOLE.length(), faultOf(changed(place, letter)));
            }
            for (char letter : not.toCharArray()) {
                AT.is(place, faultOf(changed(place, letter)));
                AT.is(place, faultOf(changed(place, letter).substring(0, place + 1)));
            }
        }
    }

    private static void faultBehindTheLastBasin() {
        AT.sentence("4: no STAIR has a twelfth letter", "");
        AT.is(11, faultOf(WHOLE));
        for (String more : new String[] {"/", "1", "0", "~", "/1", "/11", "/11"}) {
            AT.is(11, faultOf(WHOLE + more));
        }
    }

    private static void faultIsTheFirst() {
        AT.sentence("4: the first letter", "");
        for (int first = 0; first < WHOLE.length(); first++) {
            for (int second = first + 1; second < WHOLE.length(); second++) {
                String text = changed(first, '9');
                AT.is(first, faultOf(text.substring(0, second) + "9" + text.substring(second + 1)));
            }
        }
        AT.is(0, faultOf("99999999999999"));
    }

    private static String read(String text) {
        return "write(" + text + "); stair()";
    }

    private static void basinsTwoToFour() {
        AT.sentence("THE STAIR is a text: two to four BASINS", "");
        AT.refused(Edges.STATE, "stair()");
        AT.refused(Edges.STATE, read("11"));
        AT.is(2, read("11/11"));
        AT.is(3, read("11/11/11"));
        AT.is(4, read("11/11/11/11"));
        AT.refused(Edges.STATE, read("11/11/11/11/11"));
        for (int n = 2; n <= 4; n++) {
            AT.is(n, read("11" + "/11".repeat(n - 1)) + "; count(0)");
        }
    }

    private static void holdsOneToFive() {
        AT.sentence("a digit HOLDS (1 to 5)", "");
        for (int place = 0; place < WHOLE.length(); place += 3) {
            int basin = place / 3;
            for (int holds = 1; holds <= 5; holds++) {
                AT.is(holds, read(changed(place, (char) ('0' + holds))) + "; basin(" + basin
                        + ", 0)");
            }
            for (char not : "0/69a".toCharArray()) {
                AT.refused(Edges.STATE, read(changed(place, not)));
            }
        }
    }

    private static void leaksNoneToFive() {
        AT.sentence("a digit LEAKS (0 to 5)", "");
        for (int place = 1; place < WHOLE.length(); place += 3) {
            int basin = place / 3;
            for (int leaks = 0; leaks <= 5; leaks++) {
                AT.is(leaks, read(changed(place, (char) ('0' + leaks))) + "; basin(" + basin
                        + ", 1)");
            }
            for (char not : "/69 ".toCharArray()) {
                AT.refused(Edges.STATE, read(changed(place, not)));
            }
        }
    }

    private static void strokesBetween() {
        AT.sentence("with \"/\" between", "");
        for (int place = 2; place < WHOLE.length(); place += 3) {
            for (char not : ".0\\|-".toCharArray()) {
                AT.refused(Edges.STATE, read(changed(place, not)));
            }
        }
        String[] none = {"/11/11", "11/11/", "11/11/11/", "11/11/11/11/", "11//11", "1111", "11/1",
            "11/", "1", "/", "11/11x", "11/11/11/11x"};
        for (String text : none) {
            AT.refused(Edges.STATE, read(text));
        }
    }

    private static void stairIsNone() {
        AT.sentence("5: STATE: it is none", Edges.RICH);
        AT.refused(Edges.STATE, "stair()");
        AT.refused(Edges.STATE, "blank(); stair()");
        AT.refused(Edges.STATE, "write(3/4); stair()");
        AT.is(2, "write(3/42); stair()");
        AT.refused(Edges.STATE, "write(3/42/); stair()");
        AT.refused(Edges.STATE, "write(3/42/00); stair()");
        AT.is(3, "write(3/42/10); stair()");
        AT.is(1, "stair(); count(5)");
        AT.is(1, "stair(); count(6)");
        AT.is(2, "stair(); write(3/42); stair(); count(6)");
    }

    private static void anotherIsGone() {
        AT.sentence("5: another one is gone, with BOATS, DAYS, MUD", Edges.RICH
                + "; blank(); write(14/25/31/42); stair()");
        AT.is(4, "count(0)");
        for (int what = 1; what <= 5; what++) {
            AT.is(0, "count(" + what + ")");
        }
        AT.is(2, "count(6)");
        AT.is(1, "basin(0, 2)");
        AT.is(0, "basin(1, 2)");
        AT.refused(Edges.UNKNOWN, "about(0, 0)");
        AT.refused(Edges.STATE, "poured()");
        AT.refused(Edges.STATE, "line(0)");
        AT.refused(Edges.STATE, "restore()");
        AT.is(0, "boat(0, 0, 0)");
        AT.is(4, Script.times(5, "boat(0, 0, 0)"));
        AT.sentence("5: of a longer one nothing is left", Edges.RICH
                + "; blank(); write(14/25); stair()");
        AT.refused(Edges.UNKNOWN, "basin(2, 0)");
        AT.is(2, "day(9); mud(1, 0)");
    }

    private static void pageIsEmptyThen() {
        AT.sentence("5: THE PAGE is empty then", "write(11/11/11/11); stair()");
        AT.is(0, "count(5)");
        AT.is(0, "fault()");
        AT.is(0, "blank()");
        AT.refused(Edges.STATE, "stair()");
        AT.is(14, "write(12345678); write(123456)");
        AT.refused(Edges.FULL, "write(12345678); letters(0x31313131313131)");
    }

    private static void basinNumbers() {
        for (int n = 2; n <= 4; n++) {
            AT.sentence("6: UNKNOWN (BASINS are numbered from 0, below)",
                    read("51" + "/42".repeat(n - 1)));
            AT.is(5, "basin(0, 0)");
            AT.is(4, "basin(" + (n - 1) + ", 0)");
            for (String not : new String[] {"MIN", "-2", "-1", "" + n, "" + (n + 1), "5", "MAX"}) {
                AT.refused(Edges.UNKNOWN, "basin(" + not + ", 0)");
                AT.refused(Edges.UNKNOWN, "basin(" + not + ", 3)");
            }
        }
    }

    private static void basinWhats() {
        AT.sentence("6: what = 0 HOLDS, 1 LEAKS, 2 BUCKETS. OUTSIDE", Edges.RICH);
        AT.is(5, "basin(0, 0)");
        AT.is(3, "basin(0, 1)");
        AT.is(5, "basin(0, 2)");
        AT.is(3, "basin(2, 0)");
        AT.is(1, "basin(2, 1)");
        AT.is(2, "basin(2, 2)");
        for (String not : new String[] {"MIN", "-1", "3", "MAX"}) {
            AT.refused(Edges.OUTSIDE, "basin(0, " + not + ")");
            AT.refused(Edges.OUTSIDE, "basin(2, " + not + ")");
            AT.refused(Edges.UNKNOWN, "basin(3, " + not + ")");
        }
    }

    private static void river() {
        AT.sentence("BASIN 0 is at THE RIVER: it always has what it HOLDS",
                "write(35/10); stair(); boat(4, 0, 3)");
        AT.is(3, "basin(0, 2)");
        AT.is(3, "take(0, 3); basin(0, 2)");
        AT.is(6, "take(0, 3); take(0, 3)");
        AT.is(3, "take(0, 3); take(0, 3); basin(0, 2)");
        AT.is(3, "take(0, 3); pour(0, 0)");
        AT.is(3, "take(0, 3); pour(0, 0); basin(0, 2)");
        AT.is(3, "day(0); basin(0, 2)");
        AT.is(3, "day(9); basin(0, 2)");
        AT.is(0, "day(0)");
    }

    private static void othersAreDryAtFirst() {
        AT.sentence("The others have no BUCKETS at first", "write(55/50/50/50); stair()");
        AT.is(5, "basin(0, 2)");
        for (int i = 1; i < 4; i++) {
            AT.is(0, "basin(" + i + ", 2)");
        }
        AT.is(0, "count(2)");
        AT.is(0, "day(9); blank(); write(55/50/50/50); stair(); count(2)");
    }
}
