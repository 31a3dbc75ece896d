import java.lang.reflect.InvocationTargetException;
import java.lang.reflect.Method;
import java.util.ArrayList;
import java.util.Arrays;
import java.util.Comparator;
import java.util.List;
import java.util.Map;
import java.util.Objects;
import java.util.Random;

/** Runs of random calls, each answered by the program and by the model of it in Model.java. */
public final class RandomRunsTest {
    private static final int RUNS = 200;
    /** With the digest at the end these are all 512 calls for which an archive is used. */
    private static final int CALLS = 511;

    /** What stands for each parameter: T town, B book, Y year, y year of 1700 to 1799 and so on. */
    private static final Map<String, String> PARAMETERS = Map.ofEntries(
            Map.entry("book", "TYYb"), Map.entry("withdraw", "Bf"), Map.entry("meaning", "WY3"),
            Map.entry("line", "BCSYMDW"), Map.entry("harvest", "Tyh"), Map.entry("law", "TyyL"),
            Map.entry("reading", "Tyr"), Map.entry("leaveOut", "Tyf"), Map.entry("mend", "T"),
            Map.entry("prayer", "TyM5"), Map.entry("mark", "TYH"), Map.entry("call", ""),
            Map.entry("number", "CYMD"), Map.entry("named", "N2"), Map.entry("easter", "CY"),
            Map.entry("can", "l2"), Map.entry("ofBook", "B7"), Map.entry("means", "WY"),
            Map.entry("ofLine", "l5"), Map.entry("degree", "TYM3"), Map.entry("ofYear", "Ty4"),
            Map.entry("fit", "Tf"), Map.entry("heat", "Ty"), Map.entry("ofBreak", "T2"),
            Map.entry("drought", "T93"), Map.entry("returns", "TH"), Map.entry("ofTown", "T8"),
            Map.entry("desk", "X"), Map.entry("tell", "l"), Map.entry("without", "B"),
            Map.entry("wouldBe", "CSYMD"), Map.entry("test", "Ty"), Map.entry("isSound", ""),
            Map.entry("digest", ""));
    private static final List<String> TOLD = List.of("book", "withdraw", "meaning", "meaning", "line", "line",
            "line", "line", "harvest", "harvest", "harvest", "law", "reading", "reading", "reading", "reading",
            "reading", "leaveOut", "mend", "prayer", "prayer", "prayer", "mark", "call");
    private static final List<String> ASKED = List.of("number", "named", "easter", "can", "ofBook", "means", "ofLine",
            "degree", "degree", "ofYear", "fit", "heat", "ofBreak", "ofBreak", "drought", "drought", "returns",
            "ofTown", "ofTown", "desk", "tell", "without", "wouldBe", "test", "isSound", "digest");

    private static final Map<String, Method> PROGRAM = methods(Diarycold.class);
    private static final Map<String, Method> MODEL = methods(Model.class);

    public static void main(String[] args) {
        int runs = args.length > 0 ? Integer.parseInt(args[0]) : RUNS;
        for (int seed = 1; seed <= runs; seed++) {
            run(seed);
        }
        Check.end();
    }

    private static Map<String, Method> methods(Class<?> where) {
        Map<String, Method> found = new java.util.HashMap<>();
        List<Method> all = new ArrayList<>(Arrays.asList(where.getDeclaredMethods()));
        all.sort(Comparator.comparing(Method::toString));
        for (Method method : all) {
            String parameters = PARAMETERS.get(method.getName());
            boolean isPrivate = java.lang.reflect.Modifier.isPrivate(method.getModifiers());
            if (parameters != null && !isPrivate && method.getParameterCount() == parameters.length()) {
                found.put(method.getName(), method);
            }
        }
        return found;
    }

    private static void run(int seed) {
        Random random = new Random(seed);
        Diarycold program = new Diarycold();
        Model model = new Model();
        // Narrow runs meet the same years again and again, wide ones the edges.
        int span = List.of(3, 8, 30, 100).get(random.nextInt(4));
        int start = 1700 + random.nextInt(101 - span);
        int told = 2 + random.nextInt(8);
        boolean isWrongAtTimes = random.nextInt(3) == 0;
        for (int call = 0; call < CALLS; call++) {
            List<String> names = random.nextInt(10) < told ? TOLD : ASKED;
            String name = names.get(random.nextInt(names.size()));
            String kinds = PARAMETERS.get(name);
            Object[] arguments = new Object[kinds.length()];
            for (int i = 0; i < arguments.length; i++) {
                arguments[i] = argument(kinds.charAt(i), random, model, start, span);
                if (isWrongAtTimes && arguments[i] instanceof Integer && random.nextInt(40) == 0) {
                    arguments[i] = List.of(-2, -1, 0, 9, 33, 401, 1199, 1699, 1800, 1900, 1901, Integer.MIN_VALUE,
                            Integer.MAX_VALUE).get(random.nextInt(13));
                }
            }
            if (name.equals("book") && random.nextInt(4) != 0) {
                arguments[2] = Math.max((Integer) arguments[1], (Integer) arguments[2]);
            }
            Object want = answer(MODEL.get(name), model, arguments);
            Object got = answer(PROGRAM.get(name), program, arguments);
            Check.due("run " + seed + ", call " + call + ": " + name + Arrays.toString(arguments), got, want);
            if (!Objects.equals(got, want)) {
                return;
            }
        }
        Check.due("run " + seed + ": digest", program.digest(), model.digest());
    }

    private static Object argument(char kind, Random random, Model model, int start, int span) {
        int near = start + random.nextInt(span);
        switch (kind) {
            case 'T': return random.nextInt(4);
            case 'B': return random.nextInt(Math.max(1, model.books.size()));
            case 'b': return random.nextInt(model.books.size() + 1) - 1;
            case 'l': return random.nextInt(Math.max(1, model.lines.size()));
            case 'Y': return random.nextInt(6) == 0 ? 1200 + random.nextInt(700) : near;
            case 'y': return near;
            case 'M': return random.nextInt(3) == 0 ? 1 + random.nextInt(12) : 3 + random.nextInt(2);
            case 'D': return 1 + random.nextInt(31);
            case 'W': return random.nextInt(random.nextInt(3) == 0 ? 8 : 3);
            case 'C': return random.nextInt(2);
            case 'S': return random.nextInt(3);
            case 'f': return random.nextBoolean();
            case 'h': return 150 + random.nextInt(random.nextInt(4) == 0 ? 181 : 5);
            case 'r': return random.nextInt(3) == 0 ? random.nextInt(701) - 300 : random.nextInt(60) - 30;
            case 'L': return random.nextInt(31);
            case 'H': return 1 + random.nextInt(random.nextInt(2) == 0 ? 999 : 150);
            case 'N': return 400000 + random.nextInt(300001);
            case 'X': return random.nextInt(13);
            case '9': return random.nextInt(random.nextInt(4) == 0 ? 600 : 4);
            default: return random.nextInt(kind - '0' + 1);
        }
    }

    private static Object answer(Method method, Object of, Object[] arguments) {
        try {
            return method.invoke(of, arguments);
        } catch (InvocationTargetException thrown) {
            return "throws." + thrown.getCause().getClass().getSimpleName();
        } catch (IllegalAccessException closed) {
            return closed.toString();
        }
    }
}
