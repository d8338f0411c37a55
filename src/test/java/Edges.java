import java.util.ArrayList;
import java.util.List;

/**
 * Asks at the bounds that a sentence of the document names: each question goes
 * to an object made anew, and behind each refusal all that can be seen of the
 * object is compared with one that was never asked.
 */
final class Edges {
    static final int NONE = -1, UNKNOWN = -101, OUTSIDE = -102, STATE = -103, FULL = -104;

    /**
     * An object with all there can be: basins with 5, 2, 2 buckets; a CARRIER in
     * BASIN 1 with a LOAD of 1, a BOAT and a TUB (LOAD 1) in BASIN 0; two days,
     * two lines of mud, a letter; an image of a day earlier.
     */
    static final String RICH = "write(53/42/31); stair(); boat(3, 0, 2); boat(0, 2, 0); "
            + "boat(4, 1, 1); take(0, 2); pour(0, 1); take(0, 1); rise(0); day(3); mud(1, 3); "
            + "line(2); image(); take(2, 1); day(9); line(1); letters(0x35)";

    private static final List<Script> LOOKS = looks();

    private final Check check = new Check();
    private String sentence = "";
    private String scene = "";

    /** The sentence that is asked about, and the calls by which its objects come to be. */
    void sentence(String words, String calls) {
        sentence = words;
        scene = calls;
    }

    /** Of a row of calls the answer of the last. */
    void is(long want, String calls) {
        check.due(told(calls), new Script(calls).lastOf(made("")), want);
    }

    /** Of a row of calls the last is refused, and changes nothing. */
    void refused(long want, String calls) {
        int cut = calls.lastIndexOf("; ");
        String ahead = cut < 0 ? "" : calls.substring(0, cut);
        Script last = new Script(cut < 0 ? calls : calls.substring(cut + 2));
        check.holds(told(calls) + ": " + want + " is a refusal", want <= UNKNOWN && want >= FULL);
        check.due(told(calls), last.lastOf(made(ahead)), want);
        for (Script look : LOOKS) {
            Object asked = made(ahead);
            last.lastOf(asked);
            same(calls, look, look.answersOf(asked), look.answersOf(made(ahead)));
        }
    }

    void end(String test) {
        check.end(test);
    }

    private String told(String calls) {
        return "\"" + sentence + "\": [" + scene + "] " + calls;
    }

    private WaterShoulders made(String more) {
        WaterShoulders x = new WaterShoulders();
        new Script(scene).answersOf(x);
        new Script(more).answersOf(x);
        return x;
    }

    private void same(String calls, Script look, long[] got, long[] want) {
        for (int i = 0; i < want.length; i++) {
            if (got[i] != want[i]) {
                check.due(told(calls) + " changed something: " + look.callAt(i), got[i], want[i]);
                return;
            }
        }
        check.holds("nothing changed", true);
    }

    /**
     * Rows of calls by which all is seen: what stands now, what the image keeps,
     * the page read on. One row for each further line of mud, since what the mud
     * began with shows only in what its lines allow.
     */
    private static List<Script> looks() {
        List<Script> looks = new ArrayList<>();
        String all = lookAtAll();
        for (int line = 0; line <= 5; line++) {
            String mud = "line(" + line + "); poured(); sure(0); sure(1); sure(2); sure(3); sure(4)";
            looks.add(new Script(all + "; " + mud));
            looks.add(new Script("restore(); " + all + "; " + mud));
        }
        looks.add(new Script(all + "; fault(); letters(0x31); fault(); stair(); " + all));
        looks.add(new Script("boat(3, 0, 1); " + all + "; image(); day(1); restore(); " + all));
        return looks;
    }

    private static String lookAtAll() {
        StringBuilder calls = new StringBuilder("digest(); fault(); lined(1); lined(9); poured()");
        for (int i = 0; i < 8; i++) {
            calls.append("; count(" + i + ")");
        }
        for (int i = 0; i < 4; i++) {
            calls.append("; basin(" + i + ", 0); basin(" + i + ", 1); basin(" + i + ", 2)");
            calls.append("; lasts(" + i + "); chance(" + i + ", 2, 3, 1, 0)");
        }
        for (int i = 0; i < 5; i++) {
            for (int what = 0; what < 8; what++) {
                calls.append("; about(" + i + ", " + what + ")");
            }
            calls.append("; lacks(" + i + "); sure(" + i + ")");
        }
        return calls.toString();
    }
}
