import java.lang.reflect.InvocationTargetException;
import java.lang.reflect.Method;
import java.lang.reflect.Modifier;
import java.util.ArrayList;
import java.util.Comparator;
import java.util.List;
import java.util.Random;

/** Every public call with numbers from everywhere, in any order, in any state. */
public final class NeverThrowsTest {
    private static final int[] EDGES = {Integer.MIN_VALUE, Integer.MIN_VALUE + 1, -65536, -145, -144, -17, -16, -4, -3, -2, -1, 0, 1, 2, 3, 4, 5, 9, 10,
        11, 15, 16, 17, 31, 32, 33, 39, 40, 100, 144, 145, 200, 201, 255, 256, 288, 289, 1023, 1024, 2000, 9999, 10000, 32768, 65535, 65536,
        1000002, 1000003, Integer.MAX_VALUE - 1, Integer.MAX_VALUE};
    private static final String[] TEXTS = {"strip 4 4; ring across; ring along; across 3; along -3; field 3;", "strip 1 1;", "strip 1 16; ring along; along 1;",
        "strip 2 5; across 1; along -1; pull 3 3;", "strip 3 3; ring across; ring along; across -1; along -1;", "strip 4 2; across 2; pin 0 up; pin 7 down;", "strip 1 2"};

    public static void main(String[] args) throws IllegalAccessException {
        List<Method> face = new ArrayList<>();
        for (Method m : SpinStrip.class.getDeclaredMethods()) if (Modifier.isPublic(m.getModifiers())) face.add(m);
        face.sort(Comparator.comparing(Method::getName));
        for (int run = 0; run < 300; run++) go(new Random(run), face, run);
        Check.end();
    }

    private static void go(Random lot, List<Method> face, int run) throws IllegalAccessException {
        SpinStrip x = new SpinStrip();
        for (int call = 0; call < 400; call++) {
            if (lot.nextInt(60) == 0) {
                Check.tell(x, TEXTS[lot.nextInt(TEXTS.length)]);
                x.read();
            }
            Method m = face.get(lot.nextInt(face.size()));
            if (m.getName().equals("read") && lot.nextInt(4) != 0) continue;
            Object[] with = new Object[m.getParameterCount()];
            for (int k = 0; k < with.length; k++) {
                int any = lot.nextInt(3) == 0 ? lot.nextInt() : lot.nextInt(3) == 0 ? lot.nextInt(20) : EDGES[lot.nextInt(EDGES.length)];
                with[k] = m.getParameterTypes()[k] == boolean.class ? (Object) lot.nextBoolean() : (Object) any;
            }
            try {
                m.invoke(x, with);
                Check.due("call", 0, 0);
            } catch (InvocationTargetException e) {
                Check.due("run " + run + ": " + m.getName() + " threw " + e.getCause(), 1, 0);
            }
        }
    }
}
