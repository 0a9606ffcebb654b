import java.lang.reflect.Method;
import java.util.Arrays;
import java.util.Comparator;
import java.util.List;
import java.util.function.Consumer;
import java.util.function.ToLongFunction;

/**
 * What tests of boundary cases share. A test is a static method that takes a new Train and whose name begins with its
 * promise's number: p02_... for a sentence of promise 2 or of the terms that it stands on.
 */
abstract class Bounds {
    static final int UNKNOWN = -1, OUTSIDE = -2, STATE = -3, FULL = -4, NONE = -9;
    static final int NULL = -11, CAST = -12, INDEX = -13, SIZE = -14;
    static final long LOST = Long.MIN_VALUE;
    static final int MIN = Integer.MIN_VALUE, MAX = Integer.MAX_VALUE;

    private static int wrong;
    private static String test;

    static void due(String call, long got, long want) {
        if (got != want) {
            wrong++;
            System.out.println(test + ": " + call + " answered " + got + ", due is " + want);
        }
    }

    /**
     * Something of everything: 6 SEATS, MIRRORS, a BLIND, 3 ONES, LAW 0, LAW 1 that bars all, 3 YAWNS, SHEETS 0 .. 2
     * of the LANE of their number, each with a TEXT of a CARRIAGE, one of a LAW behind it, SHEET 3 with nothing;
     * fault() is 3.
     */
    static void scene(Train t) {
        t.carriage("c32m;fbrlbf");
        t.one(0, 0, 3, 1);
        t.one(1, 2, 8, 1);
        t.one(2, 4, 0, 2);
        t.blind(1, 3, true);
        t.law("o1;s4");
        t.law("o0;s0;e0");
        t.yawns(2, 0, 3, 1, 7, 2);
        for (int k = 0; k < 3; k++) {
            t.write(k, k, "c11;fo1");
        }
        t.lose(3);
        t.tell(2);
        t.put(0, 99, 0);
    }

    /** As scene(), with 12 ONES, 6 LAWS, 24 YAWNS. */
    static void fullScene(Train t) {
        t.carriage("c44;ffffffffffffffff");
        for (int x = 0; x < 12; x++) {
            t.one(0, x, 0, 0);
        }
        for (int l = 0; l < 6; l++) {
            t.law("o1");
        }
        for (int j = 0; j < 24; j++) {
            t.yawn(5, 0);
        }
        t.write(0, 0, "c11;fo1");
        t.lose(3);
        t.put(0, 99, 0);
    }

    /** A call that names no FAULTS is refused in a scene: nothing is changed, fault() neither. */
    static void refused(String name, ToLongFunction<Train> call, long want) {
        refusedIn(Bounds::scene, name, call, want, 3);
    }

    /** A call that names FAULTS is refused in a scene, or comes to this one: nothing is changed but fault(). */
    static void faulted(String name, ToLongFunction<Train> call, long want, int fault) {
        refusedIn(Bounds::scene, name, call, want, fault);
    }

    static void refusedIn(Consumer<Train> scene, String name, ToLongFunction<Train> call, long want, int fault) {
        Train untouched = new Train();
        scene.accept(untouched);
        Train t = new Train();
        scene.accept(t);
        due("fault() ahead of " + name, t.fault(), 3);
        due(name, call.applyAsLong(t), want);
        due("fault() behind " + name, t.fault(), fault);
        List<Long> held = t.held();
        List<Long> before = untouched.held();
        if (!held.equals(before)) {
            wrong++;
            System.out.println(test + ": " + name + " changes " + before + " to " + held);
        }
    }

    /** Runs all tests of a class: each of the promises first .. last has at least one. */
    static void runAll(Class<?> tests, int first, int last) throws Exception {
        Method[] methods = tests.getDeclaredMethods();
        Arrays.sort(methods, Comparator.comparing(Method::getName));
        int[] of = new int[last + 1];
        int run = 0;
        for (Method method : methods) {
            if (method.getName().matches("p\\d\\d_\\w+")) {
                test = method.getName();
                of[Integer.parseInt(test.substring(1, 3))]++;
                run++;
                method.invoke(null, new Train());
            }
        }
        for (int promise = first; promise <= last; promise++) {
            test = "promise " + promise;
            due("whether it has a test", of[promise] > 0 ? 1 : 0, 1);
        }
        System.out.println(wrong == 0 ? run + " tests of promises " + first + " to " + last + " hold"
            : wrong + " answers are not as due");
        if (wrong != 0) {
            System.exit(1);
        }
    }
}
