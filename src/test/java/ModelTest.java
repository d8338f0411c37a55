import java.util.Random;

/**
 * Long rows of chosen calls, right and wrong ones, on the class and on the
 * model: each answer is the same, and so is the digest, behind refusals too.
 * An object is promised for 512 calls, so each row has just as many, and its
 * last is a digest. The rows are drawn by set seeds: each run asks the same.
 */
public final class ModelTest {
    private static final int ROWS = 700;
    private static final int CALLS = 512;

    /** A new stair with its boats is the longest part of a row. */
    private static final int MOST_AT_ONCE = 10;

    private final Random draw;
    private final Check check;
    private final WaterShoulders x = new WaterShoulders();
    private final Model model = new Model();
    private final int row;
    private final boolean muddy;
    private int made;

    private ModelTest(int row, Check check) {
        this.row = row;
        this.check = check;
        this.draw = new Random(row);
        this.muddy = row % 3 == 0;
    }

    public static void main(String[] args) {
        Check check = new Check();
        for (int row = 0; row < ROWS; row++) {
            new ModelTest(row, check).wholeRow();
        }
        check.end("ModelTest");
    }

    private void wholeRow() {
        while (made + MOST_AT_ONCE < CALLS) {
            call();
            digest();
        }
        while (made < CALLS - 1) {
            oneCall(10 + draw.nextInt(82));
        }
        digest();
        check.due("calls of row " + row, made, CALLS);
    }

    private void digest() {
        same("digest()", x.digest(), model.digest());
    }

    private void same(String call, long got, long want) {
        made++;
        check.due("row " + row + ", call " + made + ": " + call, got, want);
    }

    /** Mostly from low to high, now and then beyond, or far away. */
    private int some(int low, int high) {
        int n = draw.nextInt(40);
        if (n == 0) {
            return low - 1;
        }
        if (n == 1) {
            return high + 1;
        }
        if (n == 2) {
            int[] far = {Integer.MIN_VALUE, Integer.MAX_VALUE, -1000, 1000, 32, 64, 256, 1 << 16};
            return far[draw.nextInt(far.length)];
        }
        return low + draw.nextInt(high - low + 1);
    }

    private String stairText() {
        StringBuilder text = new StringBuilder();
        int n = 2 + draw.nextInt(3);
        for (int i = 0; i < n; i++) {
            text.append(i == 0 ? "" : "/").append((char) ('1' + draw.nextInt(5)));
            text.append((char) ('0' + Math.max(0, draw.nextInt(8) - 2)));
        }
        return text.toString();
    }

    private void call() {
        if (made == 0 && draw.nextInt(8) > 0) {
            newStair();
            return;
        }
        int n = draw.nextInt(100);
        if (n < 10) {
            paper(draw.nextInt(40));
        } else if (n < 92) {
            oneCall(n);
        } else {
            whole(draw.nextInt(4));
        }
    }

    private void oneCall(int n) {
        if (n < 45) {
            boats(draw.nextInt(8));
        } else if (n < 60) {
            told(draw.nextInt(6));
        } else if (n < 75) {
            wouldBe(draw.nextInt(5));
        } else {
            mudLines(draw.nextInt(12));
        }
    }

    private void newStair() {
        String text = stairText();
        same("blank()", x.blank(), model.blank());
        for (int from = 0; from < text.length(); from += 8) {
            long w = Check.packed(text, from);
            same("letters(" + w + ")", x.letters(w), model.letters(w));
        }
        same("fault()", x.fault(), model.fault());
        same("stair() of " + text, x.stair(), model.stair());
        int crew = draw.nextInt(5);
        for (int i = 0; i < crew; i++) {
            boats(0);
        }
    }

    /** Mostly a boat that is there. */
    private int someBoat() {
        int there = Math.max(1, model.count(1));
        return draw.nextInt(10) == 0 ? some(0, 4) : draw.nextInt(there);
    }

    /** Mostly a basin that is there. */
    private int someBasin() {
        int there = Math.max(1, model.count(0));
        return draw.nextInt(10) == 0 ? some(0, 3) : draw.nextInt(there);
    }

    private long someLetters() {
        String signs = "0123456/5/1 A~";
        StringBuilder text = new StringBuilder();
        int n = draw.nextInt(9);
        for (int i = 0; i < n; i++) {
            text.append(signs.charAt(draw.nextInt(signs.length())));
        }
        long w = Check.packed(draw.nextInt(2) == 0 ? stairText() : text.toString(), 0);
        int odd = draw.nextInt(10);
        return odd == 0 ? draw.nextLong() : odd == 1 ? w & ~(255L << 8 * draw.nextInt(8)) : w;
    }

    private void paper(int n) {
        if (n == 0) {
            newStair();
        } else if (n < 8) {
            same("blank()", x.blank(), model.blank());
        } else if (n < 20) {
            same("fault()", x.fault(), model.fault());
        } else if (n < 22) {
            same("stair()", x.stair(), model.stair());
        } else {
            long w = someLetters();
            same("letters(" + w + ")", x.letters(w), model.letters(w));
        }
    }

    private void boats(int n) {
        int a = n == 0 ? some(0, 4) : someBoat();
        int b = n == 0 ? some(0, 5) : some(0, 1);
        switch (n) {
            case 0:
                int can = draw.nextInt(10) == 0 ? some(0, 3) : a >= 3 ? some(1, 3) : 0;
                same("boat(" + a + ", " + b + ", " + can + ")", x.boat(a, b, can),
                        model.boat(a, b, can));
                break;
            case 1:
            case 2:
                same("rise(" + a + ")", x.rise(a), model.rise(a));
                break;
            case 3:
            case 4:
                int k = draw.nextInt(2) == 0 ? some(1, 6) : some(1, 2);
                same("take(" + a + ", " + k + ")", x.take(a, k), model.take(a, k));
                break;
            case 5:
            case 6:
                same("pour(" + a + ", " + b + ")", x.pour(a, b), model.pour(a, b));
                break;
            default:
                if (draw.nextInt(3) == 0) {
                    same("down(" + a + ")", x.down(a), model.down(a));
                } else {
                    int rain = some(0, 9);
                    same("day(" + rain + ")", x.day(rain), model.day(rain));
                }
        }
    }

    private void told(int n) {
        int a = n == 0 || n == 4 ? someBasin() : someBoat();
        int b;
        switch (n) {
            case 0:
                b = some(0, 2);
                same("basin(" + a + ", " + b + ")", x.basin(a, b), model.basin(a, b));
                break;
            case 1:
                b = some(0, 7);
                same("about(" + a + ", " + b + ")", x.about(a, b), model.about(a, b));
                break;
            case 2:
                b = some(0, 4);
                same("as(" + a + ", " + b + ")", x.as(a, b), model.as(a, b));
                break;
            case 3:
                same("lacks(" + a + ")", x.lacks(a), model.lacks(a));
                break;
            case 4:
                same("lasts(" + a + ")", x.lasts(a), model.lasts(a));
                break;
            default:
                b = some(0, 7);
                same("count(" + b + ")", x.count(b), model.count(b));
        }
    }

    private void wouldBe(int n) {
        int a = n == 0 ? someBoat() : someBasin();
        int b = someBoat();
        int c = some(0, 1);
        if (n == 0) {
            same("fewest(" + a + ", " + b + ", " + c + ")", x.fewest(a, b, c),
                    model.fewest(a, b, c));
        } else if (n == 1) {
            int days = some(1, 9);
            same("lined(" + days + ")", x.lined(days), model.lined(days));
        } else if (n == 2) {
            int days = some(1, 60);
            int seed = draw.nextInt(20) == 0 ? -1 - draw.nextInt(9) : draw.nextInt() >>> 1;
            int what = some(0, 2);
            same("weeks(" + days + ", " + seed + ", " + what + ")", x.weeks(days, seed, what),
                    model.weeks(days, seed, what));
        } else {
            int days = some(1, 9);
            int tenths = some(0, 10);
            int need = some(0, 5);
            same("chance(" + a + ", " + days + ", " + tenths + ", " + need + ", " + c + ")",
                    x.chance(a, days, tenths, need, c), model.chance(a, days, tenths, need, c));
        }
    }

    private void mudLines(int n) {
        int a = n == 0 ? someBasin() : someBoat();
        if (n == 0) {
            int from = some(0, 3);
            same("mud(" + a + ", " + from + ")", x.mud(a, from), model.mud(a, from));
        } else if (n < (muddy ? 9 : 4)) {
            int line = draw.nextInt(3) == 0 ? some(0, 5) : some(0, 1);
            same("line(" + line + ")", x.line(line), model.line(line));
        } else if (n < 10) {
            same("poured()", x.poured(), model.poured());
        } else {
            same("sure(" + a + ")", x.sure(a), model.sure(a));
        }
    }

    private void whole(int n) {
        if (n == 0) {
            same("image()", x.image(), model.image());
        } else if (n == 1 && draw.nextInt(2) == 0) {
            same("restore()", x.restore(), model.restore());
        } else {
            for (int what = 0; what < 8; what++) {
                same("count(" + what + ")", x.count(what), model.count(what));
            }
        }
    }
}
