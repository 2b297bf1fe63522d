import java.lang.reflect.InvocationTargetException;
import java.lang.reflect.Method;
import java.util.Arrays;
import java.util.Comparator;
import java.util.Random;

/** Calls with any arguments in any state: none throws, the same calls give the same answers, and the room is kept. */
public final class WildTest {
    private static final int[] STRANGE = {Integer.MIN_VALUE, Integer.MIN_VALUE + 1, -1000000, -2, -1, 11, 18, 54, 60, 61,
        99, 100, 360, 361, 511, 1023, 1024, 1600, 3600, 3601, 2000000000, 2000000001, Integer.MAX_VALUE};
    private static final String[] WORDS = {"posts", "third", "angle", "corner", "to", "sum", "weight", "place", "circle",
        ";", ";", ";", " ", "\n", "0", "1", "2", "3", "9", "10", "360", "99999999999", "x", "\u00ff", "\0"};

    private final Random random;
    private final AngleNet one = new AngleNet();
    private final AngleNet two = new AngleNet();
    private final Method[] methods;

    private WildTest(long seed) {
        random = new Random(seed);
        methods = AngleNet.class.getDeclaredMethods();
        Arrays.sort(methods, Comparator.comparing(Method::getName));
    }

    public static void main(String[] args) throws Exception {
        for (long seed = 1; seed <= 400; seed++) {
            Due.about("seed " + seed);
            new WildTest(seed).run();
        }
        room();
        Due.end();
    }

    private void run() throws Exception {
        int left = 512;
        while (left > 0) {
            if (random.nextInt(40) == 0) {
                String text = random.nextInt(3) == 0 ? strangeText() : goodText();
                Due.is("net()", Due.tell(one, text), Due.tell(two, text));
                left -= 90;
            }
            Method m = methods[random.nextInt(methods.length)];
            if (java.lang.reflect.Modifier.isPublic(m.getModifiers())) {
                Object[] arguments = draw(m);
                Due.is(m.getName() + Arrays.toString(arguments), call(one, m, arguments), call(two, m, arguments));
                left--;
            }
        }
    }

    private long call(AngleNet x, Method m, Object[] arguments) throws Exception {
        try {
            return ((Number) m.invoke(x, arguments)).longValue();
        } catch (InvocationTargetException e) {
            e.getCause().printStackTrace(System.out);
            Due.holds(m.getName() + Arrays.toString(arguments) + " throws nothing", false);
            return 0;
        }
    }

    private Object[] draw(Method m) {
        Class<?>[] types = m.getParameterTypes();
        Object[] arguments = new Object[types.length];
        for (int i = 0; i < types.length; i++) {
            int v = random.nextInt(8) == 0 ? STRANGE[random.nextInt(STRANGE.length)] : random.nextInt(6);
            if (types[i] == long.class) {
                arguments[i] = random.nextInt(8) == 0 ? random.nextLong() : (long) v;
            } else {
                arguments[i] = v;
            }
        }
        return arguments;
    }

    private String strangeText() {
        StringBuilder text = new StringBuilder(random.nextBoolean() ? "posts 5;" : "");
        for (int i = random.nextInt(30); i >= 0; i--) {
            text.append(WORDS[random.nextInt(WORDS.length)]).append(random.nextBoolean() ? " " : "");
        }
        return text.toString();
    }

    private String goodText() {
        int posts = 3 + random.nextInt(8);
        StringBuilder text = new StringBuilder("posts " + posts + ";");
        AngleNet probe = new AngleNet();
        for (int i = 0; i < 30; i++) {
            String line = line(posts);
            if (text.length() + line.length() < 1000 && Due.tell(probe, text + line) > 0) {
                text.append(line);
            }
        }
        return text.toString();
    }

    private String line(int posts) {
        int p = random.nextInt(posts);
        int q = random.nextInt(posts);
        int r = random.nextInt(posts);
        switch (random.nextInt(10)) {
            case 0:
                return "angle " + p + " " + (1 + random.nextInt(400)) + ";";
            case 1:
                return "weight " + p + " " + q + " " + random.nextInt(361) + ";";
            case 2:
                return "place " + p + " " + random.nextInt(100) + " " + random.nextInt(100) + ";";
            case 3:
                return "circle " + p + " " + random.nextInt(30) + ";";
            case 4:
                return "corner " + random.nextInt(20) + " to " + random.nextInt(361) + ";";
            default:
                return "third " + p + " " + q + " " + r + ";";
        }
    }

    /** After the constructor nothing is made, so that a run's room is the constructors' alone. */
    private static void room() {
        Due.about("the room");
        com.sun.management.ThreadMXBean threads =
                (com.sun.management.ThreadMXBean) java.lang.management.ManagementFactory.getThreadMXBean();
        long id = Thread.currentThread().getId();
        AngleNet x = Due.told("posts 4;third 0 1 2;third 0 2 3;angle 0 90;");
        long sum = calls(x);
        long before = threads.getThreadAllocatedBytes(id);
        sum += calls(x);
        long used = threads.getThreadAllocatedBytes(id) - before;
        Due.holds("calls make no objects: " + used + " bytes", used < 4000);
        before = threads.getThreadAllocatedBytes(id);
        AngleNet y = new AngleNet();
        used = threads.getThreadAllocatedBytes(id) - before;
        System.out.println("a new object takes " + used + " bytes");
        Due.holds("a new object is small: " + used + " bytes", used < 80000 && y.count(0) == 0 && sum != 0);
    }

    private static long calls(AngleNet x) {
        long sum = x.can() + x.bars(0) + x.range(0, 0, 1) + x.free(0, 1) + x.flips(3, 40) + x.trees() + x.flow(0, 2, 1);
        sum += x.surface(3) + x.surface(6) + x.round(0, 1) + x.inscribed() + x.hinders(2) + x.whole() + x.keep(0) + x.back(0);
        sum += x.row(0, 2, 6) + x.judge(0) + x.laid(0) + x.legal(9) + x.undo() + x.redo() + x.paste(0, 0, 0, 1, 4);
        x.keep(1);
        x.feed(0x706f7374, 0x7320333b, 0x20202020, 0x20202020, 0x20202020);
        sum += x.net();
        x.back(1);
        return sum;
    }
}
