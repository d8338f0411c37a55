import java.util.Random;

/**
 * What would be, and mud lines, against the model: stairs, boats and water that
 * are chosen so that most questions have an answer and not a refusal.
 */
public final class WouldBeTest {
    private static final int ROWS = 4000;

    private final Random draw;
    private final Check check;
    private final WaterShoulders x = new WaterShoulders();
    private final Model model = new Model();
    private final int row;
    private String told = "";

    private WouldBeTest(int row, Check check) {
        this.row = row;
        this.check = check;
        this.draw = new Random(1000003L * row + 7);
    }

    public static void main(String[] args) {
        Check check = new Check();
        for (int row = 0; row < ROWS; row++) {
            WouldBeTest test = new WouldBeTest(row, check);
            if (row % 2 == 0) {
                test.climb();
            } else {
                test.marks();
            }
        }
        check.end("WouldBeTest");
    }

    private void same(String call, long got, long want) {
        check.due("row " + row + " (" + told + "): " + call, got, want);
    }

    private void stair(int least, int lossy) {
        StringBuilder text = new StringBuilder();
        int n = 2 + draw.nextInt(3);
        for (int i = 0; i < n; i++) {
            text.append(i == 0 ? "" : "/");
            text.append((char) ('0' + least + draw.nextInt(6 - least)));
            text.append((char) ('0' + draw.nextInt(lossy + 1)));
        }
        told = text.toString();
        for (int from = 0; from < told.length(); from += 8) {
            x.letters(Check.packed(told, from));
            model.letters(Check.packed(told, from));
        }
        same("stair()", x.stair(), model.stair());
    }

    private void boat(int kind, int draught) {
        int can = kind < 3 ? 0 : 1 + draw.nextInt(3);
        told += " boat(" + kind + ", " + draught + ", " + can + ")";
        same("boat", x.boat(kind, draught, can), model.boat(kind, draught, can));
    }

    private void climb() {
        stair(2, 5);
        boat(draw.nextInt(5), draw.nextInt(5));
        boat(3 + draw.nextInt(2), draw.nextInt(4));
        boat(3 + draw.nextInt(2), draw.nextInt(3));
        int before = draw.nextInt(12);
        for (int i = 0; i < before; i++) {
            act();
        }
        for (int i = 0; i < 3; i++) {
            for (int j = 1; j < 3; j++) {
                same("fewest(" + i + ", " + j + ", 0)", x.fewest(i, j, 0), model.fewest(i, j, 0));
                same("fewest(" + i + ", " + j + ", 1)", x.fewest(i, j, 1), model.fewest(i, j, 1));
            }
        }
        odds();
        same("digest()", x.digest(), model.digest());
    }

    private void act() {
        int b = draw.nextInt(3);
        int k = 1 + draw.nextInt(6);
        switch (draw.nextInt(9)) {
            case 0:
                same("day(" + k + ")", x.day(k), model.day(k));
                break;
            case 1:
            case 2:
                same("rise(" + b + ")", x.rise(b), model.rise(b));
                break;
            case 3:
                same("down(" + b + ")", x.down(b), model.down(b));
                break;
            case 4:
                same("pour(" + b + ", 0)", x.pour(b, 0), model.pour(b, 0));
                break;
            case 5:
            case 6:
                same("pour(" + b + ", 1)", x.pour(b, 1), model.pour(b, 1));
                break;
            default:
                same("take(" + b + ", " + k + ")", x.take(b, k), model.take(b, k));
        }
    }

    private void odds() {
        int basins = x.count(0);
        for (int i = 0; i < 6; i++) {
            int basin = 1 + draw.nextInt(basins - 1);
            int days = 1 + draw.nextInt(9);
            int tenths = draw.nextInt(11);
            int need = draw.nextInt(4);
            int part = draw.nextInt(2);
            same("chance(" + basin + ", " + days + ", " + tenths + ", " + need + ", " + part + ")",
                    x.chance(basin, days, tenths, need, part),
                    model.chance(basin, days, tenths, need, part));
            same("lined(" + days + ")", x.lined(days), model.lined(days));
            same("lasts(" + basin + ")", x.lasts(basin), model.lasts(basin));
            int seed = draw.nextInt() >>> 1;
            same("weeks(" + days + ", " + seed + ", 1)", x.weeks(days, seed, 1),
                    model.weeks(days, seed, 1));
        }
    }

    /** Lines as some carriers would have left them, so that there is a way. */
    private void marks() {
        stair(1, 3);
        int crew = draw.nextInt(6);
        for (int i = 0; i < crew; i++) {
            boat(draw.nextInt(3) == 0 ? draw.nextInt(3) : 3 + draw.nextInt(2), draw.nextInt(6));
        }
        int basin = 1 + draw.nextInt(x.count(0) - 1);
        int holds = x.basin(basin, 0);
        int level = draw.nextInt(holds + 1);
        same("mud", x.mud(basin, level), model.mud(basin, level));
        int lines = draw.nextInt(8);
        int[] dayOf = new int[crew];
        for (int i = 0; i < crew; i++) {
            dayOf[i] = draw.nextInt(lines + 1);
        }
        for (int d = 1; d <= lines; d++) {
            for (int i = 0; i < crew; i++) {
                level += dayOf[i] == d ? x.about(i, 4) : 0;
            }
            level = Math.max(0, Math.min(level, holds) - x.basin(basin, 1));
            int line = draw.nextInt(60) == 0 ? draw.nextInt(6) : level;
            same("line(" + line + ")", x.line(line), model.line(line));
        }
        same("poured()", x.poured(), model.poured());
        for (int i = 0; i < crew; i++) {
            same("sure(" + i + ")", x.sure(i), model.sure(i));
        }
        same("digest()", x.digest(), model.digest());
    }
}
