/** The bounds that promises 7 to 14 and the terms of BOATS and DAYS name, a sentence each. */
public final class BoatEdgesTest {
    private static final Edges AT = new Edges();
    private static final String[] FAR = {"MIN", "-2", "-1", "MAX"};

    public static void main(String[] args) {
        fiveAtMost();
        kinds();
        draughts();
        cans();
        boatRefusedInOrder();
        aboutNumbers();
        needs();
        carries();
        atFirst();
        floats();
        as();
        boatNumbers();
        risesOnWhatItNeeds();
        risesNotWhereItFloatsNot();
        risesNotFromTheTop();
        takesOneAtLeast();
        takesWhatTheBasinHas();
        takesWhatItCarries();
        poursOneAtLeast();
        poursEitherWay();
        runsOver();
        down();
        rain();
        leaksNoneAtLeast();
        rainRunsOver();
        AT.end("BoatEdgesTest");
    }

    private static String boat(int kind, int draught, int can) {
        return "boat(" + kind + ", " + draught + ", " + can + ")";
    }

    /** The least CAN of a KIND. */
    private static int canOf(int kind) {
        return kind >= 3 ? 1 : 0;
    }

    private static void fiveAtMost() {
        AT.sentence("BOATS (5 at most, numbered)", "write(50/50); stair()");
        for (int n = 1; n <= 5; n++) {
            AT.is(n - 1, Script.times(n, boat(0, 0, 0)));
            AT.is(n, Script.times(n, boat(0, 0, 0)) + "; count(1)");
        }
        AT.sentence("7: FULL", "write(50/50); stair(); " + Script.times(5, boat(3, 0, 1)));
        for (int kind = 0; kind <= 4; kind++) {
            AT.refused(Edges.FULL, boat(kind, 0, canOf(kind)));
        }
        AT.is(5, boat(0, 0, 0) + "; count(1)");
        AT.is(3, "about(4, 0)");
        AT.is(0, "write(10/10); stair(); " + boat(0, 0, 0));
        AT.sentence("7: restore() makes room again", "write(50/50); stair(); "
                + Script.times(4, boat(3, 0, 1)) + "; image(); " + boat(4, 0, 2));
        AT.refused(Edges.FULL, boat(1, 3, 0));
        AT.is(4, "restore(); " + boat(1, 3, 0));
        AT.is(1, "restore(); " + boat(1, 3, 0) + "; about(4, 0)");
    }

    private static void kinds() {
        AT.sentence("KINDS: 0 BOAT, 1 PUNT, 2 BARGE, 3 CARRIER, 4 TUB; 7: OUTSIDE: kind", Edges.RICH);
        for (int kind = 0; kind <= 4; kind++) {
            AT.is(3, boat(kind, 0, canOf(kind)));
            AT.is(kind, boat(kind, 0, canOf(kind)) + "; about(3, 0)");
        }
        for (String not : new String[] {"MIN", "-1", "5", "6", "MAX"}) {
            AT.refused(Edges.OUTSIDE, "boat(" + not + ", 0, 0)");
            AT.refused(Edges.OUTSIDE, "boat(" + not + ", 0, 1)");
        }
    }

    private static void draughts() {
        AT.sentence("a DRAUGHT (0 to 5); 7: OUTSIDE: draught", Edges.RICH);
        for (int kind = 0; kind <= 4; kind++) {
            for (int draught = 0; draught <= 5; draught++) {
                AT.is(draught, boat(kind, draught, canOf(kind)) + "; about(3, 1)");
            }
            for (String not : new String[] {"MIN", "-1", "6", "MAX"}) {
                AT.refused(Edges.OUTSIDE, "boat(" + kind + ", " + not + ", " + canOf(kind) + ")");
            }
        }
    }

    private static void cans() {
        AT.sentence("CAN (of a CARRIER, a TUB 1 to 3, else 0); 7: OUTSIDE: can", Edges.RICH);
        for (int kind = 0; kind <= 4; kind++) {
            int least = kind >= 3 ? 1 : 0;
            int most = kind >= 3 ? 3 : 0;
            for (int can = least; can <= most; can++) {
                AT.is(can, boat(kind, 5, can) + "; about(3, 2)");
            }
            for (String not : new String[] {"MIN", "" + (least - 1), "" + (most + 1), "MAX"}) {
                AT.refused(Edges.OUTSIDE, "boat(" + kind + ", 5, " + not + ")");
            }
        }
    }

    private static void boatRefusedInOrder() {
        AT.sentence("7: of several refusals the first: OUTSIDE, STATE, FULL", "");
        AT.refused(Edges.OUTSIDE, boat(5, 0, 0));
        AT.refused(Edges.OUTSIDE, boat(0, 6, 0));
        AT.refused(Edges.OUTSIDE, boat(0, 0, 1));
        AT.refused(Edges.OUTSIDE, boat(3, 0, 0));
        AT.refused(Edges.STATE, boat(0, 5, 0));
        AT.refused(Edges.STATE, boat(3, 0, 3));
        AT.sentence("7: OUTSIDE ahead of FULL", "write(50/50); stair(); "
                + Script.times(5, boat(0, 0, 0)));
        AT.refused(Edges.OUTSIDE, boat(-1, 0, 0));
        AT.refused(Edges.OUTSIDE, boat(0, -1, 0));
        AT.refused(Edges.OUTSIDE, boat(4, 0, 4));
        AT.refused(Edges.FULL, boat(4, 0, 3));
    }

    private static void aboutNumbers() {
        AT.sentence("8: UNKNOWN; OUTSIDE", Edges.RICH);
        int[] want = {4, 1, 1, 1, 2, 0, 1, 1};
        for (int what = 0; what <= 7; what++) {
            AT.is(want[what], "about(2, " + what + ")");
            for (String not : new String[] {"MIN", "-1", "3", "4", "5", "MAX"}) {
                AT.refused(Edges.UNKNOWN, "about(" + not + ", " + what + ")");
            }
        }
        for (String not : new String[] {"MIN", "-1", "8", "MAX"}) {
            AT.refused(Edges.OUTSIDE, "about(0, " + not + ")");
            AT.refused(Edges.OUTSIDE, "about(2, " + not + ")");
            AT.refused(Edges.UNKNOWN, "about(3, " + not + ")");
        }
    }

    private static void needs() {
        AT.sentence("NEEDS: DRAUGHT; of a PUNT half of it (rounded up); of a BARGE 1 more",
                "write(50/50); stair()");
        int[] half = {0, 1, 1, 2, 2, 3};
        for (int draught = 0; draught <= 5; draught++) {
            AT.is(draught, boat(0, draught, 0) + "; about(0, 3)");
            AT.is(half[draught], boat(1, draught, 0) + "; about(0, 3)");
            AT.is(draught + 1, boat(2, draught, 0) + "; about(0, 3)");
            AT.is(draught, boat(3, draught, 2) + "; about(0, 3)");
            AT.is(draught, boat(4, draught, 2) + "; about(0, 3)");
        }
    }

    private static void carries() {
        AT.sentence("CARRIES: CAN; of a TUB twice that", "write(50/50); stair()");
        for (int kind = 0; kind <= 2; kind++) {
            AT.is(0, boat(kind, 5, 0) + "; about(0, 4)");
        }
        for (int can = 1; can <= 3; can++) {
            AT.is(can, boat(3, 5, can) + "; about(0, 4)");
            AT.is(2 * can, boat(4, 5, can) + "; about(0, 4)");
        }
    }

    private static void atFirst() {
        AT.sentence("A BOAT is in a BASIN (0 at first), with a LOAD of BUCKETS (0 at first)",
                Edges.RICH);
        for (int kind = 0; kind <= 4; kind++) {
            AT.is(0, boat(kind, 1, canOf(kind)) + "; about(3, 5)");
            AT.is(0, boat(kind, 1, canOf(kind)) + "; about(3, 6)");
        }
        AT.sentence("one that comes where another was gone is new, too", Edges.RICH);
        AT.is(0, boat(3, 0, 2) + "; take(3, 2); rise(3); restore(); " + boat(3, 0, 2)
                + "; about(3, 6)");
        AT.is(0, boat(3, 0, 2) + "; take(3, 2); rise(3); restore(); " + boat(3, 0, 2)
                + "; about(3, 5)");
    }

    private static void floats() {
        AT.sentence("It FLOATS, if its BASIN has what it NEEDS or more", "");
        for (int holds = 1; holds <= 5; holds++) {
            String stair = "write(" + holds + "0/50); stair(); ";
            for (int draught = 0; draught <= 5; draught++) {
                AT.is(draught <= holds ? 1 : 0, stair + boat(0, draught, 0) + "; about(0, 7)");
                AT.is(draught + 1 <= holds ? 1 : 0, stair + boat(2, draught, 0) + "; about(0, 7)");
                AT.is((draught + 1) / 2 <= holds ? 1 : 0,
                        stair + boat(1, draught, 0) + "; about(0, 7)");
            }
        }
        AT.sentence("as above, in a BASIN that leaks", "write(50/51); stair(); boat(0, 2, 0); "
                + "day(4); rise(0)");
        AT.is(1, "about(0, 5)");
        AT.is(1, "about(0, 7)");
        AT.is(1, "day(0); about(0, 7)");
        AT.is(0, "day(0); day(0); about(0, 7)");
    }

    private static void as() {
        AT.sentence("All are BOATS; a TUB is a CARRIER, too. 9: NONE: it is none such",
                "write(50/50); stair(); boat(0, 1, 0); boat(1, 1, 0); boat(2, 1, 0); "
                + "boat(3, 1, 1); boat(4, 1, 1)");
        String[] such = {"10000", "11000", "10100", "10010", "10011"};
        for (int i = 0; i < 5; i++) {
            for (int kind = 0; kind < 5; kind++) {
                AT.is(such[i].charAt(kind) == '1' ? i : Edges.NONE, "as(" + i + ", " + kind + ")");
            }
            for (String not : new String[] {"MIN", "-1", "5", "MAX"}) {
                AT.refused(Edges.OUTSIDE, "as(" + i + ", " + not + ")");
                AT.refused(Edges.UNKNOWN, "as(" + not + ", " + i + ")");
                AT.refused(Edges.UNKNOWN, "as(" + not + ", " + not + ")");
            }
        }
    }

    private static void boatNumbers() {
        AT.sentence("10 to 13: UNKNOWN, ahead of all else", Edges.RICH);
        for (String not : new String[] {"MIN", "-1", "3", "4", "5", "MAX"}) {
            AT.refused(Edges.UNKNOWN, "rise(" + not + ")");
            AT.refused(Edges.UNKNOWN, "take(" + not + ", 1)");
            AT.refused(Edges.UNKNOWN, "take(" + not + ", 0)");
            AT.refused(Edges.UNKNOWN, "take(" + not + ", 7)");
            AT.refused(Edges.UNKNOWN, "pour(" + not + ", 0)");
            AT.refused(Edges.UNKNOWN, "pour(" + not + ", 2)");
            AT.refused(Edges.UNKNOWN, "down(" + not + ")");
        }
        AT.is(1, "rise(2)");
        AT.is(2, "take(2, 1)");
        AT.is(0, "pour(2, 1)");
    }

    private static void risesOnWhatItNeeds() {
        AT.sentence("It RISES to the next BASIN, if that has what it NEEDS; 10: STATE: it can't",
                "write(50/50); stair(); boat(0, 3, 0); boat(2, 3, 0); boat(1, 5, 0); boat(0, 0, 0)");
        AT.is(1, "rise(3)");
        AT.refused(Edges.STATE, "rise(0)");
        AT.refused(Edges.STATE, "day(2); rise(0)");
        AT.is(1, "day(3); rise(0)");
        AT.is(1, "day(4); rise(0)");
        AT.refused(Edges.STATE, "day(3); rise(1)");
        AT.is(1, "day(4); rise(1)");
        AT.refused(Edges.STATE, "day(2); rise(2)");
        AT.is(1, "day(3); rise(2)");
        AT.is(1, "day(3); rise(0); about(0, 5)");
        AT.is(3, "day(3); rise(0); basin(1, 2)");
    }

    private static void risesNotWhereItFloatsNot() {
        AT.sentence("It RISES, if it FLOATS", "write(30/50/50); stair(); boat(0, 3, 0); "
                + "boat(0, 4, 0); day(9); day(9)");
        AT.is(5, "basin(1, 2)");
        AT.is(1, "rise(0)");
        AT.refused(Edges.STATE, "rise(1)");
        AT.sentence("as above, in a BASIN above", "write(50/51/50); stair(); boat(0, 3, 0); day(9)");
        AT.is(3, "basin(1, 2)");
        AT.is(2, "rise(0); rise(0)");
        AT.refused(Edges.STATE, "rise(0); day(0); rise(0)");
        AT.is(2, "rise(0); day(0); day(3); rise(0)");
    }

    private static void risesNotFromTheTop() {
        AT.sentence("It RISES to the next BASIN: from the top there is none", "");
        for (int n = 2; n <= 4; n++) {
            String up = "write(50" + "/50".repeat(n - 1) + "); stair(); boat(3, 0, 1); take(0, 1); "
                    + Script.times(n - 1, "rise(0)");
            AT.is(n - 1, up);
            AT.refused(Edges.STATE, up + "; rise(0)");
            AT.is(n - 1, up + "; rise(0); about(0, 5)");
        }
    }

    private static void takesOneAtLeast() {
        AT.sentence("It TAKES so many BUCKETS (1 at least); 11: OUTSIDE: buckets (1 to 6)",
                "write(50/50); stair(); boat(4, 0, 3); boat(0, 0, 0)");
        AT.is(1, "take(0, 1)");
        AT.is(5, "take(0, 5)");
        AT.refused(Edges.STATE, "take(0, 6)");
        for (String not : new String[] {"MIN", "-1", "0", "7", "MAX"}) {
            AT.refused(Edges.OUTSIDE, "take(0, " + not + ")");
            AT.refused(Edges.OUTSIDE, "take(1, " + not + ")");
            AT.refused(Edges.OUTSIDE, "take(0, 5); take(0, 1); take(0, " + not + ")");
        }
        AT.refused(Edges.STATE, "take(1, 1)");
        AT.refused(Edges.STATE, "take(1, 6)");
    }

    private static void takesWhatTheBasinHas() {
        AT.sentence("It TAKES, if its BASIN has them; 11: STATE: it can't", "");
        for (int holds = 1; holds <= 5; holds++) {
            String river = "write(" + holds + "0/50); stair(); boat(4, 5, 3); ";
            AT.is(holds, river + "take(0, " + holds + ")");
            AT.refused(Edges.STATE, river + "take(0, " + (holds + 1) + ")");
        }
        for (int has = 0; has <= 5; has++) {
            String above = "write(50/50); stair(); boat(4, 0, 3); rise(0); day(" + has + "); ";
            AT.refused(Edges.STATE, above + "take(0, " + (has + 1) + ")");
            if (has > 0) {
                AT.is(has, above + "take(0, " + has + ")");
                AT.is(0, above + "take(0, " + has + "); basin(1, 2)");
                AT.refused(Edges.STATE, above + "take(0, " + has + "); take(0, 1)");
            }
        }
    }

    private static void takesWhatItCarries() {
        AT.sentence("its LOAD is no more than it CARRIES then; 11: STATE: it can't", "");
        for (int kind = 3; kind <= 4; kind++) {
            for (int can = 1; can <= 3; can++) {
                int most = kind == 4 ? 2 * can : can;
                String made = "write(50/50); stair(); " + boat(kind, 0, can) + "; ";
                String full = made + Script.times(most, "take(0, 1)");
                AT.is(most, full);
                AT.refused(Edges.STATE, full + "; take(0, 1)");
                AT.is(most, full + "; take(0, 1); about(0, 6)");
                if (most <= 4) {
                    AT.is(most, made + "take(0, " + most + ")");
                    AT.refused(Edges.STATE, made + "take(0, " + (most + 1) + ")");
                }
            }
        }
        AT.sentence("a BOAT, a PUNT, a BARGE CARRIES none", "write(50/50); stair(); "
                + "boat(0, 0, 0); boat(1, 0, 0); boat(2, 0, 0)");
        for (int i = 0; i < 3; i++) {
            AT.refused(Edges.STATE, "take(" + i + ", 1)");
        }
    }

    private static void poursOneAtLeast() {
        AT.sentence("It POURS all its LOAD (1 at least); 12: STATE: it can't",
                "write(50/50); stair(); boat(4, 0, 3); boat(0, 0, 0)");
        for (int way = 0; way <= 1; way++) {
            AT.refused(Edges.STATE, "pour(0, " + way + ")");
            AT.refused(Edges.STATE, "pour(1, " + way + ")");
            AT.is(1 - way, "take(0, 1); pour(0, " + way + ")");
            AT.is(0, "take(0, 5); take(0, 1); pour(0, " + way + "); about(0, 6)");
            AT.refused(Edges.STATE, "take(0, 1); pour(0, " + way + "); pour(0, " + way + ")");
        }
    }

    private static void poursEitherWay() {
        AT.sentence("into its own BASIN (way 0), or the next one above (1); 12: OUTSIDE: way (0, 1)",
                "write(50/50/50); stair(); boat(3, 0, 3); take(0, 2); rise(0)");
        AT.is(2, "pour(0, 0); basin(1, 2)");
        AT.is(0, "pour(0, 0); basin(2, 2)");
        AT.is(0, "pour(0, 1); basin(1, 2)");
        AT.is(2, "pour(0, 1); basin(2, 2)");
        for (String not : new String[] {"MIN", "-1", "2", "MAX"}) {
            AT.refused(Edges.OUTSIDE, "pour(0, " + not + ")");
            AT.refused(Edges.OUTSIDE, "pour(0, 0); pour(0, " + not + ")");
            AT.refused(Edges.OUTSIDE, "rise(0); pour(0, " + not + ")");
        }
        AT.sentence("above the top there is no next one", "write(50/50/50); stair(); "
                + "boat(3, 0, 3); take(0, 2); rise(0); rise(0)");
        AT.refused(Edges.STATE, "pour(0, 1)");
        AT.is(2, "pour(0, 1); about(0, 6)");
        AT.is(0, "pour(0, 0)");
        AT.is(2, "pour(0, 0); basin(2, 2)");
    }

    private static void runsOver() {
        AT.sentence("What is poured above what it HOLDS runs over into the one below, and so on; "
                + "in BASIN 0 it is gone", "write(50/20/30); stair(); boat(4, 0, 3)");
        for (int k = 1; k <= 5; k++) {
            AT.is(k, "take(0, " + k + "); pour(0, 0)");
            AT.is(Math.max(0, k - 2), "take(0, " + k + "); pour(0, 1)");
            AT.is(Math.min(2, k), "take(0, " + k + "); pour(0, 1); basin(1, 2)");
            String ahead = "take(0, " + k + "); rise(0); pour(0, 1)";
            AT.is(0, ahead);
            AT.is(Math.min(3, k), ahead + "; basin(2, 2)");
            AT.is(Math.max(0, k - 3), ahead + "; basin(1, 2)");
        }
        AT.is(1, "take(0, 5); take(0, 1); rise(0); pour(0, 1)");
        AT.is(5, "take(0, 5); take(0, 1); rise(0); pour(0, 1); count(2)");
        AT.is(6, "take(0, 5); take(0, 1); pour(0, 0)");
        AT.is(1, "day(5); take(0, 1); pour(0, 1)");
        AT.sentence("through all four", "write(10/10/10/10); stair(); boat(4, 0, 3); "
                + Script.times(6, "take(0, 1)") + "; rise(0); rise(0)");
        AT.is(3, "pour(0, 1)");
        AT.is(3, "pour(0, 1); count(2)");
        AT.is(4, "pour(0, 0)");
        AT.is(2, "pour(0, 0); count(2)");
        AT.is(6, "day(3); pour(0, 1)");
    }

    private static void down() {
        AT.sentence("It comes DOWN to BASIN 0, if it has no LOAD and is in another one; "
                + "13: STATE: it can't", "write(50/50/50/50); stair(); boat(3, 0, 1)");
        AT.refused(Edges.STATE, "down(0)");
        AT.refused(Edges.STATE, "take(0, 1); down(0)");
        for (int up = 1; up <= 3; up++) {
            String rises = Script.times(up, "rise(0)");
            AT.is(up, rises + "; down(0)");
            AT.is(0, rises + "; down(0); about(0, 5)");
            AT.refused(Edges.STATE, rises + "; down(0); down(0)");
            AT.refused(Edges.STATE, "take(0, 1); " + rises + "; down(0)");
            AT.is(up, "take(0, 1); " + rises + "; pour(0, 0); down(0)");
        }
        AT.sentence("whether it FLOATS or not", "write(50/51); stair(); boat(0, 1, 0); day(2); "
                + "rise(0); day(0)");
        AT.is(0, "about(0, 7)");
        AT.is(1, "down(0)");
    }

    private static void rain() {
        AT.sentence("RAIN (0 to 9); 14: OUTSIDE: rain", "write(50/50/50); stair()");
        for (int rain = 0; rain <= 9; rain++) {
            AT.is(rain, "day(" + rain + ")");
            AT.is(1, "day(" + rain + "); count(3)");
        }
        AT.sentence("14: OUTSIDE: rain", Edges.RICH);
        for (String not : new String[] {"MIN", "-1", "10", "MAX"}) {
            AT.refused(Edges.OUTSIDE, "day(" + not + ")");
        }
        AT.sentence("14: of several refusals the first: OUTSIDE, STATE", "");
        for (String not : FAR) {
            AT.refused(Edges.OUTSIDE, "day(" + not + ")");
        }
        AT.refused(Edges.OUTSIDE, "day(10)");
        AT.refused(Edges.STATE, "day(0)");
        AT.refused(Edges.STATE, "day(9)");
        AT.is(0, "day(9); count(3)");
    }

    private static void leaksNoneAtLeast() {
        AT.sentence("then each but BASIN 0 has LEAKS fewer (0 at least)", "");
        for (int leaks = 0; leaks <= 5; leaks++) {
            for (int rain = 0; rain <= 9; rain++) {
                String day = "write(5" + leaks + "/5" + leaks + "); stair(); day(" + rain + ")";
                AT.is(Math.max(0, Math.min(5, rain) - leaks), day);
                AT.is(5, day + "; basin(0, 2)");
            }
        }
        AT.sentence("each but BASIN 0", "write(15/52/51/53); stair(); day(9); day(9)");
        // behind the first: 0, 3, 2; behind the second: 5, 5, 5 less 2, 1, 3 but for what is gone
        AT.is(2, "basin(1, 2)");
        AT.is(4, "basin(2, 2)");
        AT.is(2, "basin(3, 2)");
        AT.is(1, "basin(0, 2)");
    }

    private static void rainRunsOver() {
        AT.sentence("RAIN is poured into the top BASIN", "write(10/20/30); stair()");
        int[] top = {0, 1, 2, 3, 3, 3, 3, 3, 3, 3};
        int[] below = {0, 0, 0, 0, 1, 2, 2, 2, 2, 2};
        for (int rain = 0; rain <= 9; rain++) {
            AT.is(top[rain], "day(" + rain + "); basin(2, 2)");
            AT.is(below[rain], "day(" + rain + "); basin(1, 2)");
            AT.is(1, "day(" + rain + "); basin(0, 2)");
        }
    }
}
