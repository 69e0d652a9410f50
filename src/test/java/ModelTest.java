import java.lang.reflect.InvocationTargetException;
import java.lang.reflect.Method;
import java.lang.reflect.Modifier;
import java.util.Arrays;
import java.util.Comparator;
import java.util.HashMap;
import java.util.Map;
import java.util.TreeMap;

/** Long runs of calls, in which every answer must be that of the Model, and every exception of the same class. */
public final class ModelTest {
    private static final int RUNS = 120;
    private static final int CALLS = 512;
    private static final Checks CHECKS = new Checks();
    private static final Map<String, Method> MODEL = new HashMap<>();
    private static final Method[] FACE = Debatetab.class.getDeclaredMethods();
    private static final String[] CHANGES = {"addTeam", "addJudge", "addConflict", "setPresent", "setIron", "draw",
        "ballot", "swap"};
    /** How often each method has answered and thrown, so that a run that tries too little is seen. */
    private static final Map<String, Integer> SEEN = new TreeMap<>();

    private static long state;
    private static Debatetab tab;
    private static Model model;
    private static StringBuilder story;

    public static void main(String[] args) throws IllegalAccessException {
        for (Method each : Model.class.getMethods()) {
            MODEL.put(each.getName(), each);
        }
        Arrays.sort(FACE, Comparator.comparing(Method::getName));
        for (int run = 1; run <= RUNS; run++) {
            CHECKS.begin("run " + run);
            play(run);
        }
        CHECKS.begin("the runs");
        checkSeen();
        CHECKS.end();
    }

    /** A fixed sequence of numbers from a seed: each run is the same every time. */
    private static int below(int bound) {
        state = state * 6364136223846793005L + 1442695040888963407L;
        return (int) ((state >>> 33) % bound);
    }

    private static void play(int run) throws IllegalAccessException {
        state = run;
        tab = new Debatetab();
        model = new Model();
        story = new StringBuilder();
        int calls = 0;
        int schools = 1 + below(5);
        boolean isUneven = below(2) == 0;
        int teams = below(13);
        int judges = below(4) == 0 ? below(9) : 8;
        for (int i = 0; i < teams; i++) {
            calls += call("addTeam", isUneven && below(2) == 0 ? 0 : below(schools));
        }
        for (int i = 0; i < judges; i++) {
            calls += call("addJudge", below(3) == 0 ? below(6) : 5, 1 + below(9));
        }
        boolean calm = below(3) != 0;
        while (calls < CALLS) {
            calls += calm && below(3) != 0 ? goOn() : below(3) == 0 ? change() : ask();
        }
        compareAll();
    }

    /** Does what brings the tournament on: a draw, or a ballot of a room that has none. */
    private static int goOn() throws IllegalAccessException {
        if (model.rounds() == 0 || model.missing() == 0) {
            return drawAndCompare();
        }
        if (below(8) != 0) {
            return call("swap", below(model.teams()), below(model.teams()));
        }
        return call("ballot", model.nextRoom(), score(), score(), score(), score());
    }

    private static int drawAndCompare() throws IllegalAccessException {
        int present = 0;
        for (int team = 0; team < model.teams(); team++) {
            present += model.isPresent(team) ? 1 : 0;
        }
        if (present % 2 != 0 && below(4) != 0) {
            return call("setPresent", below(model.teams()), below(2) == 0);
        }
        if (model.rounds() == 6 && below(20) != 0) {
            return ask();
        }
        int before = model.rounds();
        call("draw");
        if (model.rounds() != before) {
            compareAll();
            swapAll();
        }
        return 1;
    }

    /** Few swaps are allowed, so all are tried, and what they leave is compared. */
    private static void swapAll() throws IllegalAccessException {
        for (int one = -1; one <= model.teams(); one++) {
            for (int other = -1; other <= model.teams(); other++) {
                call("swap", one, other);
            }
        }
        compareAll();
    }

    /** Asks for all that can be asked, one step beyond each end too. */
    private static void compareAll() throws IllegalAccessException {
        for (Method each : FACE) {
            if (Modifier.isPublic(each.getModifiers()) && !Arrays.asList(CHANGES).contains(each.getName())) {
                askAll(each, new Object[each.getParameterCount()], 0);
            }
        }
    }

    private static void askAll(Method method, Object[] arguments, int done) throws IllegalAccessException {
        if (done == arguments.length) {
            call(method.getName(), arguments.clone());
            return;
        }
        if (method.getParameterTypes()[done] == char.class) {
            for (char sign : new char[] {'p', 'o', 't', 'j', 'x'}) {
                arguments[done] = sign;
                askAll(method, arguments, done + 1);
            }
            return;
        }
        int most = method.getName().equals("bestSpeaker") ? 24 : 12;
        for (int number = -1; number <= most; number++) {
            arguments[done] = number;
            askAll(method, arguments, done + 1);
        }
    }

    /** Of few values, so that sums and averages are often equal. */
    private static int score() {
        return below(2) == 0 ? 70 + below(3) : 60 + below(21);
    }

    private static int change() throws IllegalAccessException {
        String name = CHANGES[below(CHANGES.length)];
        if (name.startsWith("add") && below(4) != 0) {
            return 0;
        }
        if (name.equals("setPresent")) {
            return call(name, below(13), below(4) != 0);
        }
        if (name.equals("ballot")) {
            return call(name, below(8) - 1, 59 + below(23), 70, below(3) == 0 ? 59 + below(23) : 71, 70);
        }
        return call(name, arguments(name));
    }

    private static int ask() throws IllegalAccessException {
        Method method = FACE[below(FACE.length)];
        if (!Modifier.isPublic(method.getModifiers())
                || Arrays.asList(CHANGES).contains(method.getName())) {
            return 0;
        }
        return call(method.getName(), arguments(method.getName()));
    }

    private static Object[] arguments(String name) {
        Class<?>[] types = MODEL.get(name).getParameterTypes();
        Object[] arguments = new Object[types.length];
        for (int i = 0; i < types.length; i++) {
            arguments[i] = types[i] == char.class ? (Object) "ptojx".charAt(below(5)) : (Object) number(name);
        }
        return arguments;
    }

    private static int number(String name) {
        int kind = below(60);
        if (kind == 0) {
            return Integer.MIN_VALUE;
        }
        if (kind == 1) {
            return Integer.MAX_VALUE;
        }
        if (name.equals("breaks")) {
            return below(2) == 0 ? 2 << below(3) : below(10) - 1;
        }
        if (name.equals("bestSpeaker")) {
            return below(26) - 1;
        }
        return below(name.equals("swap") || name.equals("standing") || kind > 40 ? 14 : 5) - 1;
    }

    private static int call(String name, Object... arguments) throws IllegalAccessException {
        Method method = MODEL.get(name);
        Object due = answer(method, model, arguments);
        Object got = null;
        for (Method each : FACE) {
            if (each.getName().equals(name)) {
                got = answer(each, tab, arguments);
            }
        }
        story.append(name).append(Arrays.toString(arguments)).append(' ');
        SEEN.merge(name + (due instanceof Class ? " throws " + ((Class<?>) due).getSimpleName() : " answers"), 1,
                Integer::sum);
        boolean isSame = due.equals(got);
        CHECKS.same(isSame ? name : "after " + story + name, got, due);
        return 1;
    }

    private static Object answer(Method method, Object on, Object[] arguments) throws IllegalAccessException {
        try {
            return method.invoke(on, arguments);
        } catch (InvocationTargetException e) {
            return e.getCause().getClass();
        }
    }

    /** Each method must have answered, and have thrown each exception that it declares. */
    private static void checkSeen() {
        for (Method each : FACE) {
            if (!Modifier.isPublic(each.getModifiers())) {
                continue;
            }
            CHECKS.isTrue(each.getName() + " never answered", SEEN.getOrDefault(each.getName() + " answers", 0) > 9);
            for (Class<?> type : each.getExceptionTypes()) {
                String thrown = each.getName() + " throws " + type.getSimpleName();
                CHECKS.isTrue(thrown + " never seen", SEEN.getOrDefault(thrown, 0) > 2);
            }
        }
    }
}
