import java.lang.management.ManagementFactory;
import java.lang.reflect.InvocationTargetException;
import java.lang.reflect.Method;
import java.lang.reflect.Modifier;
import java.util.ArrayList;
import java.util.Comparator;
import java.util.List;
import java.util.Random;

/** Any call with any arguments in any state: none throws, all end, answers stay in their bounds, and the room is kept. */
public final class RobustTest {
    private static final int CALLS = 512;
    private static final int RUNS = 300;
    /** What a run may make is some 7.3 million fields and elements; so many bytes are well below that. */
    private static final long MOST_BYTES_MADE = 10_000_000;
    private static final int[] EDGES = {Integer.MIN_VALUE, Integer.MIN_VALUE + 1, -1000, -2, -1, 0, 1, 2, 3, 4, 5, 7, 8, 9, 10,
        15, 16, 19, 20, 23, 24, 25, 29, 30, 31, 39, 40, 41, 59, 60, 61, 299, 300, 301, 999, 1000, 9998, 9999, 10000,
        (1 << 30) - 1, 1 << 30, Integer.MAX_VALUE - 1, Integer.MAX_VALUE};
    private static final int[] SOME_EDGES = {Integer.MIN_VALUE, -2, -1, 0, 1, 2, 3, 9, 10, 29, 30, 31, 60, 61, (1 << 30) - 1, 1 << 30,
        Integer.MAX_VALUE};
    private static final int[] FEW_EDGES = {Integer.MIN_VALUE, -1, 0, 0x64617920};

    private RobustTest() {
    }

    public static void main(String[] args) throws IllegalAccessException {
        List<Method> face = face();
        Check.at("the face");
        Check.due("methods", face.size(), 57);
        for (int run = 0; run < RUNS; run++) {
            Check.at("run " + run);
            run(face, new Random(run));
        }
        Edge.Make[] states = {Edge::fresh, Edge::busy, () -> Edge.at(9999), RobustTest::full};
        for (int state = 0; state < states.length; state++) {
            Check.at("state " + state);
            for (Method method : face) {
                edgesOf(method, states[state]);
            }
        }
        dearRuns();
        Check.close();
    }

    /** As much of everything as there may be. */
    private static LongCarrier full() {
        LongCarrier x = PromiseTest.crowded("loses 0; waits 1;");
        x.delay(20);
        x.tries(9);
        for (int block = 0; block < 3; block++) {
            x.open(block);
            x.cancel(block, 1);
        }
        x.day(20);
        for (int n = 0; n < 8; n++) {
            x.said(n % 5, n);
        }
        for (int n = 1; n < 4; n++) {
            Check.text(x, "loses 1" + "+1".repeat(146) + ";");
        }
        Check.tape(x, "(".repeat(300));
        return x;
    }

    /** The method with every edge for each of its arguments, in that state; a new object behind each 400 calls. */
    private static void edgesOf(Method method, Edge.Make state) throws IllegalAccessException {
        int count = method.getParameterCount();
        int[] edges = count > 3 ? FEW_EDGES : count == 3 ? SOME_EDGES : EDGES;
        int combinations = 1;
        for (int i = 0; i < count; i++) {
            combinations *= edges.length;
        }
        LongCarrier x = state.make();
        for (int n = 0; n < combinations; n++) {
            if (n % 400 == 399) {
                x = state.make();
            }
            Object[] arguments = new Object[count];
            int rest = n;
            for (int i = 0; i < count; i++) {
                int edge = edges[rest % edges.length];
                boolean truth = method.getParameterTypes()[i] == boolean.class;
                arguments[i] = truth ? (Object) (edge > 0) : (Object) edge;
                rest /= edges.length;
            }
            call(x, method, arguments);
        }
    }

    private static void call(LongCarrier x, Method method, Object[] arguments) throws IllegalAccessException {
        try {
            method.invoke(x, arguments);
            Check.due(method.getName(), 0, 0);
        } catch (InvocationTargetException thrown) {
            Check.due(method.getName() + java.util.Arrays.toString(arguments) + " threw " + thrown.getCause(), 1, 0);
        }
    }

    private static List<Method> face() {
        List<Method> face = new ArrayList<>();
        for (Method method : LongCarrier.class.getDeclaredMethods()) {
            if (Modifier.isPublic(method.getModifiers())) {
                face.add(method);
            }
        }
        face.sort(Comparator.comparing(Method::getName));
        return face;
    }

    private static void run(List<Method> face, Random draw) throws IllegalAccessException {
        LongCarrier x = new LongCarrier();
        TextMaker maker = new TextMaker(draw);
        int wild = draw.nextInt(4);
        for (int call = 0; call < CALLS; call++) {
            Check.due("CLOCK in its bounds", x.is(0) >= 0 && x.is(0) <= 9999, true);
            if (draw.nextInt(20) == 0) {
                Check.text(x, draw.nextBoolean() ? maker.law() : maker.wrongText());
                continue;
            }
            Method method = face.get(draw.nextInt(face.size()));
            Object[] arguments = new Object[method.getParameterCount()];
            for (int i = 0; i < arguments.length; i++) {
                boolean truth = method.getParameterTypes()[i] == boolean.class;
                arguments[i] = truth ? (Object) draw.nextBoolean() : (Object) argument(draw, wild);
            }
            call(x, method, arguments);
        }
    }

    private static int argument(Random draw, int wild) {
        if (wild == 0) {
            return EDGES[draw.nextInt(EDGES.length)];
        }
        if (wild == 1) {
            return draw.nextInt(10) == 0 ? draw.nextInt() : EDGES[draw.nextInt(EDGES.length)];
        }
        return draw.nextInt(4) - (draw.nextInt(5) == 0 ? 1 : 0);
    }

    private interface Call {
        void on(LongCarrier x, int n);
    }

    /** The dearest calls, each as often as a run may call it. */
    private static void dearRuns() {
        Check.at("the room");
        Check.due("day", made((x, n) -> x.day(n % 20 == 19 ? 30 : 3)) < MOST_BYTES_MADE, true);
        Check.due("till", made((x, n) -> x.till(0)) < MOST_BYTES_MADE, true);
        Check.due("ideal", made((x, n) -> x.ideal(2)) < MOST_BYTES_MADE, true);
        Check.due("image and back", made((x, n) -> Check.due("image", x.image(), x.back())) < MOST_BYTES_MADE, true);
        String long1 = "loses " + "1+".repeat(140) + "1;";
        Check.due("texts", made((x, n) -> readAgain(x, long1)) < MOST_BYTES_MADE, true);
        String long2 = "loses " + "1+".repeat(146) + "1";
        Check.due("texts with a fault", made((x, n) -> readAgain(x, long2)) < MOST_BYTES_MADE, true);
    }

    private static void readAgain(LongCarrier x, String text) {
        x.back();
        Check.text(x, text);
    }

    private static long made(Call call) {
        com.sun.management.ThreadMXBean threads = (com.sun.management.ThreadMXBean) ManagementFactory.getThreadMXBean();
        long thread = Thread.currentThread().getId();
        long before = threads.getThreadAllocatedBytes(thread);
        LongCarrier x = PromiseTest.crowded("loses 5; waits if kind = 0 then 5 else 20 end;");
        x.tries(9);
        x.open(0);
        x.open(1);
        for (int n = 0; n < CALLS; n++) {
            call.on(x, n);
        }
        return threads.getThreadAllocatedBytes(thread) - before;
    }
}
