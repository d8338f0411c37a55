import java.util.ArrayList;
import java.util.List;

/**
 * Every call of the face but letters() (StairEdgesTest has its bytes) with every
 * choice of arguments in and just around their bounds, in objects that are empty,
 * filled or full: the answer is the model's, and behind a refusal, or a call that
 * only looks, the digest is as it was. An object is asked no more than 512 times.
 */
public final class SweepTest {
    /** A call and, for each argument, the least and the greatest that is as told. */
    private static final String[][] CALLS = {
        {"blank"}, {"fault"}, {"stair"}, {"basin", "0 3", "0 2"},
        {"boat", "0 4", "0 5", "0 3"}, {"about", "0 4", "0 7"}, {"as", "0 4", "0 4"},
        {"rise", "0 4"}, {"take", "0 4", "1 6"}, {"pour", "0 4", "0 1"}, {"down", "0 4"},
        {"day", "0 9"}, {"fewest", "0 4", "0 4", "0 1"}, {"lacks", "0 4"}, {"lasts", "0 3"},
        {"lined", "1 9"}, {"chance", "0 3", "1 9", "0 10", "0 5", "0 1"}, {"mud", "0 3", "0 5"},
        {"line", "0 5"}, {"poured"}, {"sure", "0 4"}, {"weeks", "1 60", "0 2147483646", "0 2"},
        {"image"}, {"restore"}, {"count", "0 7"}, {"digest"}};

    private static final String LOOKING = " fault basin about as lacks lasts lined chance poured "
            + "sure weeks count digest ";

    private static final String FULL = "write(50/41/50/32); stair(); boat(0, 0, 0); boat(4, 1, 3); "
            + "boat(1, 3, 0); boat(3, 2, 1); boat(2, 1, 0); day(9); day(9); image(); take(1, 5); "
            + "rise(0); rise(0); rise(0); rise(2); mud(2, 1); " + Script.times(4, "line(1)") + "; "
            + Script.times(3, "line(5)") + "; " + Script.times(40, "fewest(0, 1, 0)")
            + "; write(54/45/31/22x/)";

    private static final String[] SCENES = {"", "write(11/55)", Edges.RICH, FULL,
        "write(15/55); stair(); " + Script.times(5, "boat(4, 0, 3)") + "; take(0, 1); rise(0)",
        "write(22/23/24); stair(); boat(3, 1, 2); image(); write(33/10); stair(); boat(3, 0, 1)"};

    private static final int MOST_CALLS = 512;

    private final Check check = new Check();
    private final String scene;
    private WaterShoulders x;
    private Model model;
    private long before;
    private int made;

    private SweepTest(String scene) {
        this.scene = scene;
        makeAnew();
    }

    public static void main(String[] args) {
        Check all = new Check();
        for (String scene : SCENES) {
            SweepTest test = new SweepTest(scene);
            for (String[] call : CALLS) {
                test.sweep(call, new ArrayList<>());
            }
            all.take(test.check);
        }
        all.end("SweepTest");
    }

    private void makeAnew() {
        x = new WaterShoulders();
        model = new Model();
        made = new Script(scene).answersOf(x).length + 1;
        new Script(scene).answersOf(model);
        before = x.digest();
        check.due("[" + scene + "] digest()", before, model.digest());
    }

    private void sweep(String[] call, List<String> args) {
        if (args.size() == call.length - 1) {
            ask(call[0], call[0] + "(" + String.join(", ", args) + ")");
            return;
        }
        for (String arg : around(call[args.size() + 1])) {
            args.add(arg);
            sweep(call, args);
            args.remove(args.size() - 1);
        }
    }

    private void ask(String name, String call) {
        if (made + 2 > MOST_CALLS) {
            makeAnew();
        }
        made += 2;
        Script script = new Script(call);
        long got = script.lastOf(x);
        check.due("[" + scene + "] " + call, got, script.lastOf(model));
        if (LOOKING.contains(" " + name + " ") || got <= Edges.UNKNOWN && got >= Edges.FULL) {
            check.due("[" + scene + "] digest behind " + call, x.digest(), before);
        } else {
            check.due("[" + scene + "] digest behind " + call, x.digest(), model.digest());
            makeAnew();
        }
    }

    /** All from one below the least to one above the greatest (of many: near to both), and afar. */
    private static List<String> around(String bounds) {
        long least = Long.parseLong(bounds.split(" ")[0]);
        long most = Long.parseLong(bounds.split(" ")[1]);
        List<String> around = new ArrayList<>(List.of("MIN"));
        for (long n = least - 1; n <= most + 1; n++) {
            if (n > least + 12 && n < most - 1) {
                n = most - 1;
            }
            around.add("" + n);
        }
        around.add("MAX");
        return around;
    }
}
