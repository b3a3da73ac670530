import java.lang.reflect.Method;
import java.util.ArrayList;
import java.util.Arrays;
import java.util.Comparator;
import java.util.List;
import java.util.Map;
import java.util.Random;

/** Random runs of calls, each answer held against the Model's. The seeds are fixed: every run is the same. */
public final class ModelTest {
    private static final int RUNS = 1500;
    private static final int CALLS = 512;
    private static final int[] EDGES = {
        -2, -1, 0, 1, 2, 3, 4, 5, 6, 7, 8, 9, 10, 15, 16, 19, 20, 21, 29, 30, 59, 60, 61, 63, 100, 999, 1000, 1001,
        Integer.MIN_VALUE, Integer.MAX_VALUE};
    private static final Map<String, Integer> WEIGHTS = Map.of("feed", 0, "end", 0, "senate", 0, "step", 4,
            "news", 3, "sit", 3, "change", 3, "undo", 3, "redo", 2, "looks", 3);

    /** For each parameter: most arguments are below this, so that most calls are of things that can be. */
    private static final Map<String, int[]> BELOW = Map.ofEntries(
            Map.entry("fault", new int[] {2}), Map.entry("member", new int[] {7, 7}),
            Map.entry("district", new int[] {4, 4}), Map.entry("seat", new int[] {16, 2}),
            Map.entry("news", new int[] {10}), Map.entry("sit", new int[] {7, 16}),
            Map.entry("change", new int[] {7, 7}), Map.entry("unseat", new int[] {7}),
            Map.entry("stand", new int[] {7, 2}), Map.entry("sample", new int[] {8, 2}),
            Map.entry("samples", new int[] {8}), Map.entry("chain", new int[] {7, 7}),
            Map.entry("place", new int[] {7, 2}), Map.entry("move", new int[] {3}),
            Map.entry("will", new int[] {7, 61}), Map.entry("ahead", new int[] {61}),
            Map.entry("unrest", new int[] {61}), Map.entry("sways", new int[] {7, 10, 21}),
            Map.entry("parties", new int[] {4, 2}), Map.entry("least", new int[] {64, 21}),
            Map.entry("best", new int[] {21}), Map.entry("odds", new int[] {5, 2}),
            Map.entry("moved", new int[] {3}), Map.entry("lies", new int[] {8}),
            Map.entry("looks", new int[] {7, 7, 10}), Map.entry("untell", new int[] {30}),
            Map.entry("later", new int[] {4}), Map.entry("fits", new int[] {5}),
            Map.entry("ask", new int[] {7, 2, 5}), Map.entry("image", new int[] {3}),
            Map.entry("back", new int[] {3}), Map.entry("about", new int[] {14}));

    private final Random random;
    private final List<Method> methods = new ArrayList<>();
    private final List<String> done = new ArrayList<>();
    private FaceSenate program;
    private Model model;
    private int calls;

    private ModelTest(long seed) {
        random = new Random(seed);
        Method[] all = FaceSenate.class.getDeclaredMethods();
        Arrays.sort(all, Comparator.comparing(Method::getName));
        for (Method m : all) {
            if (java.lang.reflect.Modifier.isPublic(m.getModifiers())) {
                for (int i = 0; i < WEIGHTS.getOrDefault(m.getName(), 1); i++) {
                    methods.add(m);
                }
            }
        }
    }

    public static void main(String[] args) throws Exception {
        int runs = args.length > 0 ? Integer.parseInt(args[0]) : RUNS;
        long first = args.length > 1 ? Long.parseLong(args[1]) : 0;
        int wrong = 0;
        int[] faults = new int[6];
        for (int run = 0; run < runs && wrong < 5; run++) {
            wrong += new ModelTest(first + run).run(faults) ? 0 : 1;
        }
        System.out.println("faults met, by number: " + Arrays.toString(faults));
        for (int f = 0; f < faults.length; f++) {
            if (faults[f] == 0 && runs >= 200) {
                System.out.println("no run met fault " + f);
                wrong++;
            }
        }
        System.out.println(wrong == 0 ? "ModelTest: all as due" : "ModelTest: " + wrong + " runs wrong");
        if (wrong != 0) {
            System.exit(1);
        }
    }

    private boolean run(int[] faults) throws Exception {
        program = new FaceSenate();
        model = new Model();
        while (calls < CALLS) {
            int chance = random.nextInt(120);
            boolean same;
            if (calls == 0 || chance == 0) {
                same = tell(faults);
            } else {
                Method m = methods.get(random.nextInt(methods.size()));
                same = both(m, arguments(m));
            }
            if (!same) {
                return false;
            }
        }
        return true;
    }

    private boolean both(Method m, Object[] args) throws Exception {
        calls++;
        Object got = m.invoke(program, args);
        Object want = Model.class.getMethod(m.getName(), m.getParameterTypes()).invoke(model, args);
        done.add(m.getName() + Arrays.toString(args) + " = " + got);
        if (!got.equals(want)) {
            System.out.println("a run of " + calls + " calls:");
            done.subList(Math.max(0, done.size() - 40), done.size()).forEach(System.out::println);
            System.out.println("  due is " + want);
            return false;
        }
        return true;
    }

    private boolean both(String name, Object... args) throws Exception {
        for (Method m : FaceSenate.class.getDeclaredMethods()) {
            if (m.getName().equals(name) && java.lang.reflect.Modifier.isPublic(m.getModifiers())) {
                return both(m, args);
            }
        }
        throw new IllegalStateException(name);
    }

    private Object[] arguments(Method m) {
        Object[] args = new Object[m.getParameterCount()];
        for (int i = 0; i < args.length; i++) {
            if (m.getParameterTypes()[i] == boolean.class) {
                args[i] = random.nextBoolean();
            } else if (random.nextInt(20) == 0) {
                args[i] = EDGES[random.nextInt(EDGES.length)];
            } else if (m.getName().equals("fits") || m.getName().equals("ask") && i == 2) {
                args[i] = model.about(10) - random.nextInt(random.nextBoolean() ? 5 : 2000);
            } else if (m.getName().equals("later") && random.nextInt(4) == 0) {
                args[i] = random.nextInt(1001);
            } else {
                args[i] = random.nextInt(BELOW.get(m.getName())[i]);
            }
        }
        return args;
    }

    private boolean tell(int[] faults) throws Exception {
        String text = new Texts(random).text();
        if (random.nextInt(10) == 0 && !both("end", 0)) {
            return false;
        }
        int before = model.about(11);
        done.add("text: " + text);
        for (int i = 0; i < text.length(); i += 20) {
            Object[] five = new Object[5];
            for (int j = 0; j < 5; j++) {
                int n = 0;
                for (int k = i + 4 * j; k < i + 4 * j + 4; k++) {
                    n = n << 8 | (k < text.length() ? text.charAt(k) : ' ');
                }
                five[j] = n;
            }
            if (!both("feed", five)) {
                return false;
            }
        }
        boolean same = both("end", before + text.length()) && both("senate") && both("fault", 0) && both("fault", 1)
                && both("about", 11) && both("about", 12);
        faults[model.fault(0)]++;
        if (model.fault(0) != 0) {
            same = same && both("end", 0);
        }
        return same;
    }
}
