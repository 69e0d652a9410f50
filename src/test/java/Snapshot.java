import java.lang.reflect.InvocationTargetException;
import java.lang.reflect.Method;
import java.lang.reflect.Modifier;
import java.util.ArrayList;
import java.util.Arrays;
import java.util.Comparator;
import java.util.List;
import java.util.Set;
import java.util.function.Supplier;

/**
 * All that a tournament answers. Each method is asked on an object of its own, as an object is used for at most 512
 * calls.
 */
final class Snapshot {
    private static final Set<String> CHANGES = Set.of("addTeam", "addJudge", "addConflict", "setPresent", "setIron",
            "draw", "ballot", "swap");
    private static final Set<String> OF_ROUNDS = Set.of("rooms", "teamIn", "judgeIn", "penaltyOf", "winner");
    private static final char[] SIGNS = {'p', 'o', 't', 'j'};

    private Snapshot() {
    }

    static List<String> of(Supplier<Debatetab> scene) {
        List<String> lines = new ArrayList<>();
        Method[] face = Debatetab.class.getDeclaredMethods();
        Arrays.sort(face, Comparator.comparing(Method::getName));
        for (Method each : face) {
            if (Modifier.isPublic(each.getModifiers()) && !CHANGES.contains(each.getName())) {
                askAll(scene.get(), each, new Object[each.getParameterCount()], 0, lines);
            }
        }
        addIrons(scene.get(), lines);
        return lines;
    }

    private static void askAll(Debatetab tab, Method method, Object[] arguments, int done, List<String> lines) {
        if (done == arguments.length) {
            lines.add(method.getName() + Arrays.toString(arguments) + " " + answer(tab, method, arguments));
            return;
        }
        if (method.getParameterTypes()[done] == char.class) {
            for (char sign : SIGNS) {
                arguments[done] = sign;
                askAll(tab, method, arguments, done + 1, lines);
            }
            return;
        }
        for (int number = 0; number <= mostFor(method.getName()); number++) {
            arguments[done] = number;
            askAll(tab, method, arguments, done + 1, lines);
        }
    }

    private static int mostFor(String name) {
        return OF_ROUNDS.contains(name) ? 6 : name.equals("bestSpeaker") ? 24 : 12;
    }

    private static Object answer(Debatetab tab, Method method, Object[] arguments) {
        try {
            return method.invoke(tab, arguments);
        } catch (InvocationTargetException e) {
            return e.getCause().getClass().getSimpleName();
        } catch (IllegalAccessException e) {
            throw new IllegalStateException(e);
        }
    }

    /** Iron speakers are told only by the call that ends them. */
    private static void addIrons(Debatetab tab, List<String> lines) {
        for (int team = 0; team < tab.teams(); team++) {
            lines.add("setIron[" + team + ", -1] " + tab.setIron(team, -1));
        }
    }

    /** Plays on, so that what is hidden in the object shows too. */
    static Debatetab goOn(Debatetab tab) {
        if (tab.teams() < 12) {
            tab.addTeam(3);
        }
        while (tab.judges() < 8) {
            tab.addJudge(4, 1 + tab.judges());
        }
        for (int team = 0; team < tab.teams(); team++) {
            tab.setPresent(team, tab.teams() % 2 == 0 || team != 1);
        }
        enterBallots(tab);
        try {
            tab.draw();
            enterBallots(tab);
        } catch (IllegalStateException | UnsupportedOperationException e) {
            // Six rounds are over, or no judges fit: then there is no more to play.
        }
        return tab;
    }

    private static void enterBallots(Debatetab tab) {
        int rooms = tab.rounds() == 0 ? 0 : tab.rooms(tab.rounds() - 1);
        for (int room = 0; room < rooms; room++) {
            if (tab.winner(tab.rounds() - 1, room) == '-') {
                tab.ballot(room, 61 + room, 77 - 2 * room, 65, 68 + room % 2);
            }
        }
    }
}
