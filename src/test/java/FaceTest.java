import java.lang.reflect.Constructor;
import java.lang.reflect.Field;
import java.lang.reflect.Method;
import java.lang.reflect.Modifier;
import java.util.ArrayList;
import java.util.Collections;
import java.util.List;

/** The class has the document's face and no other member that is to be seen. */
public final class FaceTest {
    private static final String[] FACE = {
        "int about(int, int)", "int as(int, int)", "int basin(int, int)", "int blank()",
        "int boat(int, int, int)", "int count(int)", "int day(int)", "int down(int)",
        "int fault()", "int fewest(int, int, int)", "int image()", "int lacks(int)",
        "int lasts(int)", "int letters(long)", "int line(int)", "int lined(int)",
        "int mud(int, int)", "int pour(int, int)", "int poured()", "int restore()",
        "int rise(int)", "int stair()", "int sure(int)", "int take(int, int)",
        "int weeks(int, int, int)", "long chance(int, int, int, int, int)", "long digest()"};

    public static void main(String[] args) throws Exception {
        Check check = new Check();
        Class<?> c = WaterShoulders.class;
        check.holds("the class is public and final",
                Modifier.isPublic(c.getModifiers()) && Modifier.isFinal(c.getModifiers()));
        check.holds("its methods are " + seenMethods(c), seenMethods(c).equals(List.of(FACE)));
        Constructor<?>[] made = c.getDeclaredConstructors();
        check.holds("one public constructor without arguments", made.length == 1
                && Modifier.isPublic(made[0].getModifiers()) && made[0].getParameterCount() == 0);
        constants(check, c);
        namesOfPrivateMethods(check, c);
        check.end("FaceTest");
    }

    private static List<String> seenMethods(Class<?> c) {
        List<String> seen = new ArrayList<>();
        for (Method m : c.getDeclaredMethods()) {
            if (!Modifier.isPrivate(m.getModifiers())) {
                StringBuilder parts = new StringBuilder();
                for (Class<?> p : m.getParameterTypes()) {
                    parts.append(parts.length() == 0 ? "" : ", ").append(p.getName());
                }
                boolean plain = m.getModifiers() == Modifier.PUBLIC;
                seen.add((plain ? "" : "not plainly public: ") + m.getReturnType().getName()
                        + " " + m.getName() + "(" + parts + ")");
            }
        }
        Collections.sort(seen);
        return seen;
    }

    private static void constants(Check check, Class<?> c) throws Exception {
        String[] names = {"NONE", "UNKNOWN", "OUTSIDE", "STATE", "FULL"};
        int[] values = {-1, -101, -102, -103, -104};
        for (int i = 0; i < names.length; i++) {
            Field f = c.getField(names[i]);
            int want = Modifier.PUBLIC | Modifier.STATIC | Modifier.FINAL;
            check.due(names[i] + "'s modifiers", f.getModifiers(), want);
            check.due(names[i], f.getInt(null), values[i]);
        }
        int seen = 0;
        for (Field f : c.getDeclaredFields()) {
            seen += Modifier.isPrivate(f.getModifiers()) ? 0 : 1;
        }
        check.due("fields that are to be seen", seen, names.length);
    }

    private static void namesOfPrivateMethods(Check check, Class<?> c) {
        String all = " " + String.join(" ", FACE);
        for (Class<?> inner : c.getDeclaredClasses()) {
            check.holds(inner + " is static", Modifier.isStatic(inner.getModifiers()));
            for (Method m : inner.getDeclaredMethods()) {
                check.holds(inner + "." + m.getName() + " has a name of its own",
                        !all.contains(" " + m.getName() + "("));
            }
        }
        for (Method m : c.getDeclaredMethods()) {
            if (Modifier.isPrivate(m.getModifiers())) {
                check.holds(m.getName() + " has a name of its own",
                        !all.contains(" " + m.getName() + "("));
            }
        }
    }
}
