import java.util.List;
import java.util.function.Function;
import java.util.function.Supplier;

/**
 * Each "Throws" row of the document, at its bounds and far beyond them; where several apply, the one that is listed
 * first; and after each of them all must be as before, then and when the tournament is played on.
 */
public final class ThrowsTest extends Scene {
    private static final Checks CHECKS = new Checks();

    /** A tournament in a known state, and what it answers if no call is refused. */
    private static final class Stage {
        final Supplier<Debatetab> scene;
        final List<String> now;
        final List<String> later;

        Stage(Supplier<Debatetab> scene) {
            this.scene = scene;
            now = Snapshot.of(scene);
            later = Snapshot.of(() -> Snapshot.goOn(scene.get()));
        }
    }

    private static final Stage EMPTY = new Stage(Debatetab::new);
    private static final Stage FULL = new Stage(Scene::full);
    private static final Stage BEFORE = new Stage(ThrowsTest::sixBefore);
    private static final Stage RUNNING = new Stage(ThrowsTest::sixRunning);
    private static final Stage AFTER = new Stage(Scene::fourAfterOne);
    private static final Stage FEWER_ROOMS = new Stage(ThrowsTest::fewerRooms);
    private static final Stage SIX_ROUNDS = new Stage(Scene::sixRounds);
    private static final Stage SIXTH_ROUND = new Stage(Scene::sixthRound);

    public static void main(String[] args) {
        Runnable[] parts = {
            ThrowsTest::addTeam, ThrowsTest::addJudge, ThrowsTest::addConflict, ThrowsTest::setPresent,
            ThrowsTest::setIron, ThrowsTest::draw, ThrowsTest::drawWithoutJudges, ThrowsTest::ballot,
            ThrowsTest::ballotScores, ThrowsTest::swap, ThrowsTest::swapOfRooms, ThrowsTest::swapOfJudges,
            ThrowsTest::askTeam, ThrowsTest::askTeams, ThrowsTest::askJudge, ThrowsTest::standing,
            ThrowsTest::askBracket, ThrowsTest::askPlace, ThrowsTest::oddBrackets, ThrowsTest::leastByTrying,
            ThrowsTest::askRound, ThrowsTest::askRoom, ThrowsTest::teamIn, ThrowsTest::missing,
            ThrowsTest::nextRoom, ThrowsTest::askSpeaker, ThrowsTest::noSpeeches, ThrowsTest::bestSpeaker,
            ThrowsTest::breaks, ThrowsTest::fewerBreak, ThrowsTest::people, ThrowsTest::meanPenalty,
        };
        for (int i = 0; i < parts.length; i++) {
            CHECKS.begin("part " + (i + 1));
            parts[i].run();
        }
        CHECKS.end();
    }

    /** The six teams with a third and a fourth judge, a conflict, an iron speaker and an absent one, an eighth. */
    private static Debatetab sixBefore() {
        Debatetab tab = sixTeams();
        tab.addTeam(4);
        tab.addTeam(4);
        tab.addJudge(5, 9);
        tab.addJudge(5, 8);
        tab.addJudge(5, 7);
        tab.addJudge(2, 1);
        tab.addConflict(1, 0);
        tab.setIron(1, 0);
        tab.setIron(4, 1);
        tab.setPresent(6, false);
        tab.setPresent(7, false);
        return tab;
    }

    /** The same in a round {0, 3}, {1, 4}, {2, 5} of which room 1 has a ballot. */
    private static Debatetab sixRunning() {
        Debatetab tab = sixBefore();
        tab.draw();
        tab.ballot(1, 72, 70, 70, 71);
        return tab;
    }

    /** Four teams of which 2 and 3 alone are in the second round, which has no ballot. */
    private static Debatetab fewerRooms() {
        Debatetab tab = fourAfterOne();
        tab.setPresent(0, false);
        tab.setPresent(1, false);
        tab.draw();
        return tab;
    }

    /** The call must be refused so, and leave no trace. */
    private static void refused(String what, Class<? extends RuntimeException> due, Stage stage,
            Function<Debatetab, Object> call) {
        Debatetab tab = stage.scene.get();
        CHECKS.fails(what, due, () -> call.apply(tab));
        Supplier<Debatetab> tried = () -> afterTrying(stage.scene.get(), call);
        CHECKS.same("now, after " + what, changes(Snapshot.of(tried), stage.now), "");
        CHECKS.same("later, after " + what, changes(Snapshot.of(() -> Snapshot.goOn(tried.get())), stage.later), "");
    }

    private static Debatetab afterTrying(Debatetab tab, Function<Debatetab, Object> call) {
        try {
            call.apply(tab);
        } catch (RuntimeException e) {
            // That it throws, and what, is looked at elsewhere; here only the state after it counts.
        }
        return tab;
    }

    private static String changes(List<String> got, List<String> due) {
        if (got.size() != due.size()) {
            return "another number of lines";
        }
        for (int i = 0; i < due.size(); i++) {
            if (!got.get(i).equals(due.get(i))) {
                return got.get(i) + " instead of " + due.get(i);
            }
        }
        return "";
    }

    /** Numbers that are none of those from 0 up to below a count. */
    private static int[] beyond(int count) {
        return new int[] {LEAST, LEAST + count, -1, count, count + 32, MOST};
    }

    private static void addTeam() {
        for (int school : beyond(6)) {
            refused("addTeam of school " + school, ARGUMENT, EMPTY, t -> t.addTeam(school));
            refused("a 13th team of school " + school, ARGUMENT, FULL, t -> t.addTeam(school));
        }
        refused("a 13th team", STATE, FULL, t -> t.addTeam(0));
        refused("a 13th team of the last school", STATE, FULL, t -> t.addTeam(5));
    }

    private static void addJudge() {
        for (int school : beyond(6)) {
            refused("addJudge of school " + school, ARGUMENT, BEFORE, t -> t.addJudge(school, 9));
            refused("a 9th judge of school " + school, ARGUMENT, FULL, t -> t.addJudge(school, 9));
        }
        for (int rank : new int[] {LEAST, -1, 0, 10, MOST}) {
            refused("addJudge of rank " + rank, ARGUMENT, BEFORE, t -> t.addJudge(5, rank));
            refused("a 9th judge of rank " + rank, ARGUMENT, FULL, t -> t.addJudge(5, rank));
        }
        refused("addJudge of no school and no rank", ARGUMENT, BEFORE, t -> t.addJudge(6, 0));
        refused("a 9th judge", STATE, FULL, t -> t.addJudge(0, 1));
        refused("a 9th judge of the greatest rank", STATE, FULL, t -> t.addJudge(5, 9));
    }

    private static void addConflict() {
        for (int judge : beyond(4)) {
            refused("addConflict of judge " + judge, ELEMENT, BEFORE, t -> t.addConflict(judge, 0));
            refused("addConflict of neither, judge " + judge, ELEMENT, BEFORE, t -> t.addConflict(judge, 8));
        }
        for (int team : beyond(8)) {
            refused("addConflict with team " + team, ELEMENT, BEFORE, t -> t.addConflict(1, team));
        }
        refused("judge 8 of 8", ELEMENT, FULL, t -> t.addConflict(8, 11));
        refused("team 12 of 12", ELEMENT, FULL, t -> t.addConflict(7, 12));
        refused("a conflict of none", ELEMENT, EMPTY, t -> t.addConflict(0, 0));
        refused("a conflict that has been told", STATE, BEFORE, t -> t.addConflict(1, 0));
    }

    private static void setPresent() {
        for (int team : beyond(8)) {
            refused("setPresent of team " + team, ELEMENT, BEFORE, t -> t.setPresent(team, false));
            refused("setPresent, true, of team " + team, ELEMENT, BEFORE, t -> t.setPresent(team, true));
        }
        refused("setPresent of team 12 of 12", ELEMENT, FULL, t -> t.setPresent(12, false));
    }

    private static void setIron() {
        for (int speaker : new int[] {LEAST, -2, 2, MOST}) {
            refused("setIron of speaker " + speaker, ARGUMENT, BEFORE, t -> t.setIron(1, speaker));
            refused("setIron of neither, speaker " + speaker, ELEMENT, BEFORE, t -> t.setIron(8, speaker));
        }
        for (int team : beyond(8)) {
            refused("setIron of team " + team, ELEMENT, BEFORE, t -> t.setIron(team, 0));
            refused("setIron, none, of team " + team, ELEMENT, BEFORE, t -> t.setIron(team, -1));
        }
        refused("setIron of team 12 of 12", ELEMENT, FULL, t -> t.setIron(12, 1));
    }

    private static void draw() {
        refused("draw() of no team", STATE, EMPTY, Debatetab::draw);
        refused("draw() of absent teams alone", STATE, new Stage(() -> {
            Debatetab tab = withJudges(1, 0, 1);
            tab.setPresent(0, false);
            tab.setPresent(1, false);
            return tab;
        }), Debatetab::draw);
        refused("draw() of one team", STATE, new Stage(() -> withJudges(1, 0)), Debatetab::draw);
        refused("draw() of 11 teams", STATE, new Stage(() -> {
            Debatetab tab = full();
            tab.setPresent(11, false);
            return tab;
        }), Debatetab::draw);
        refused("draw() with two ballots missing", STATE, RUNNING, Debatetab::draw);
        refused("draw() with the first ballot missing", STATE, new Stage(() -> {
            Debatetab tab = sixRunning();
            tab.ballot(2, 70, 70, 70, 71);
            return tab;
        }), Debatetab::draw);
        refused("draw() with the last ballot missing", STATE, new Stage(() -> {
            Debatetab tab = sixRunning();
            tab.ballot(0, 70, 70, 70, 71);
            return tab;
        }), Debatetab::draw);
        refused("draw() after six rounds", STATE, SIX_ROUNDS, Debatetab::draw);
        refused("draw() in the sixth round", STATE, SIXTH_ROUND, Debatetab::draw);
    }

    private static void drawWithoutJudges() {
        refused("no judge", UNSUPPORTED, new Stage(() -> withTeams(0, 1)), Debatetab::draw);
        refused("five judges for six rooms", UNSUPPORTED, new Stage(() -> withJudges(5, 0, 1, 2, 3, 4, 0, 1, 2, 3, 4,
                0, 1)), Debatetab::draw);
        refused("a second round for which there are too few", UNSUPPORTED, new Stage(() -> {
            Debatetab tab = fourAfterOne();
            tab.addTeam(0);
            tab.addTeam(1);
            return tab;
        }), Debatetab::draw);
        refused("no judge for an odd number of teams", STATE, new Stage(() -> withTeams(0, 1, 2)), Debatetab::draw);
        refused("too few judges where a ballot is missing", STATE, new Stage(() -> {
            Debatetab tab = withJudges(1, 0, 1);
            tab.draw();
            tab.addTeam(2);
            tab.addTeam(3);
            return tab;
        }), Debatetab::draw);
        refused("too few judges after six rounds", STATE, new Stage(() -> {
            Debatetab tab = sixRounds();
            tab.addTeam(2);
            tab.addTeam(3);
            return tab;
        }), Debatetab::draw);
    }

    private static void ballot() {
        refused("ballot without a round", STATE, BEFORE, t -> t.ballot(0, 70, 70, 70, 71));
        refused("ballot without a round, of no room", STATE, BEFORE, t -> t.ballot(-1, 70, 70, 70, 71));
        refused("ballot without a round, of wrong scores", STATE, BEFORE, t -> t.ballot(0, 59, 70, 70, 71));
        refused("ballot without a round, of equal sums", STATE, EMPTY, t -> t.ballot(0, 70, 70, 70, 70));
        for (int room : beyond(3)) {
            refused("ballot of room " + room, ELEMENT, RUNNING, t -> t.ballot(room, 70, 70, 70, 71));
            refused("ballot of wrong scores, room " + room, ELEMENT, RUNNING, t -> t.ballot(room, 70, 70, 70, 81));
            refused("ballot of equal sums, room " + room, ELEMENT, RUNNING, t -> t.ballot(room, 70, 70, 70, 70));
        }
        refused("ballot of a room of the round before", ELEMENT, FEWER_ROOMS, t -> t.ballot(1, 70, 70, 70, 71));
        refused("a second ballot", UNSUPPORTED, RUNNING, t -> t.ballot(1, 70, 70, 70, 71));
        refused("the same ballot again", UNSUPPORTED, RUNNING, t -> t.ballot(1, 72, 70, 70, 71));
        refused("a second ballot of wrong scores", ARGUMENT, RUNNING, t -> t.ballot(1, 70, 70, 70, 81));
        refused("a second ballot of equal sums", ARGUMENT, RUNNING, t -> t.ballot(1, 70, 71, 71, 70));
    }

    private static void ballotScores() {
        for (int score : new int[] {LEAST, -1, 0, 59, 81, MOST}) {
            refused("first " + score, ARGUMENT, RUNNING, t -> t.ballot(0, score, 70, 71, 74));
            refused("second " + score, ARGUMENT, RUNNING, t -> t.ballot(0, 70, score, 71, 74));
            refused("third " + score, ARGUMENT, RUNNING, t -> t.ballot(0, 71, 74, score, 70));
            refused("fourth " + score, ARGUMENT, RUNNING, t -> t.ballot(0, 71, 74, 70, score));
        }
        refused("equal sums of equal scores", ARGUMENT, RUNNING, t -> t.ballot(0, 60, 60, 60, 60));
        refused("equal sums of other scores", ARGUMENT, RUNNING, t -> t.ballot(0, 80, 60, 65, 75));
        refused("equal sums, the other way round", ARGUMENT, RUNNING, t -> t.ballot(2, 80, 79, 79, 80));
    }

    private static void swap() {
        refused("swap without a round", STATE, BEFORE, t -> t.swap(0, 1));
        refused("swap without a round, of no team", STATE, BEFORE, t -> t.swap(8, -1));
        refused("swap without a round, of the same", STATE, BEFORE, t -> t.swap(0, 0));
        for (int team : beyond(8)) {
            refused("swap of team 0 with " + team, ELEMENT, RUNNING, t -> t.swap(0, team));
            refused("swap of team 0, with " + team + " first", ELEMENT, RUNNING, t -> t.swap(team, 0));
            refused("swap of the same, " + team, ELEMENT, RUNNING, t -> t.swap(team, team));
            refused("swap of one with a ballot with " + team, ELEMENT, RUNNING, t -> t.swap(1, team));
        }
        refused("swap with one that has no room", ELEMENT, RUNNING, t -> t.swap(0, 6));
        refused("swap of one that has no room", ELEMENT, RUNNING, t -> t.swap(6, 0));
        refused("swap of two that have no room", ELEMENT, RUNNING, t -> t.swap(6, 7));
        refused("swap of the same, which has no room", ELEMENT, RUNNING, t -> t.swap(7, 7));
        refused("swap with one that had a room before", ELEMENT, FEWER_ROOMS, t -> t.swap(2, 0));
        refused("swap of one that had a room before", ELEMENT, FEWER_ROOMS, t -> t.swap(1, 3));
    }

    private static void swapOfRooms() {
        refused("swap of the same", UNSUPPORTED, RUNNING, t -> t.swap(0, 0));
        refused("swap in a room", UNSUPPORTED, RUNNING, t -> t.swap(0, 3));
        refused("swap in a room, the other way round", UNSUPPORTED, RUNNING, t -> t.swap(5, 2));
        refused("swap into a room with a ballot", UNSUPPORTED, RUNNING, t -> t.swap(3, 4));
        refused("swap from a room with a ballot", UNSUPPORTED, RUNNING, t -> t.swap(4, 3));
        refused("swap by which places would cost more", UNSUPPORTED, RUNNING, t -> t.swap(3, 2));
        refused("the same, the other way round", UNSUPPORTED, RUNNING, t -> t.swap(2, 3));
        refused("swap by which a school would cost more", UNSUPPORTED, RUNNING, t -> t.swap(3, 5));
        // All the others would make the sum of the penalties less, as 6 and 7 have met four times.
        for (int one = 6; one < 8; one++) {
            for (int other = 0; other < 6; other++) {
                int first = one;
                int second = other;
                refused("swap of " + one + " and " + other + ", of another bracket", UNSUPPORTED, SIXTH_ROUND,
                        t -> t.swap(first, second));
                refused("the same, the other way round", UNSUPPORTED, SIXTH_ROUND, t -> t.swap(second, first));
            }
        }
    }

    /** Teams 3 and 4, which are of schools 2 and 3, can be swapped if the judges 0 and 1 of their rooms allow it. */
    private static void swapOfJudges() {
        int[][] conflicts = {{0, 4}, {1, 3}, {0, 0}, {1, 1}};
        for (int[] each : conflicts) {
            Stage stage = new Stage(() -> {
                Debatetab tab = sixDrawn();
                tab.addConflict(each[0], each[1]);
                return tab;
            });
            String conflict = "swap with a conflict of judge " + each[0] + " and team " + each[1];
            refused(conflict, UNSUPPORTED, stage, t -> t.swap(3, 4));
            refused(conflict + ", the other way round", UNSUPPORTED, stage, t -> t.swap(4, 3));
        }
        int[][] schools = {{3, 5}, {5, 2}};
        for (int[] each : schools) {
            Stage stage = new Stage(() -> {
                Debatetab tab = sixTeams();
                tab.addJudge(each[0], 9);
                tab.addJudge(each[1], 8);
                tab.addJudge(5, 7);
                tab.draw();
                return tab;
            });
            String school = "swap with judges of schools " + each[0] + " and " + each[1];
            refused(school, UNSUPPORTED, stage, t -> t.swap(3, 4));
            refused(school + ", the other way round", UNSUPPORTED, stage, t -> t.swap(4, 3));
        }
    }

    /** The methods that ask for a team. */
    private static void askTeam() {
        for (Stage stage : List.of(EMPTY, FULL, AFTER)) {
            for (int team : beyond(stage.scene.get().teams())) {
                refused("schoolOf " + team, ELEMENT, stage, t -> t.schoolOf(team));
                refused("isPresent " + team, ELEMENT, stage, t -> t.isPresent(team));
                refused("wins " + team, ELEMENT, stage, t -> t.wins(team));
                refused("points " + team, ELEMENT, stage, t -> t.points(team));
                refused("strength " + team, ELEMENT, stage, t -> t.strength(team));
                refused("proposed " + team, ELEMENT, stage, t -> t.proposed(team));
            }
        }
    }

    private static void askTeams() {
        for (int team : beyond(4)) {
            refused("met(0, " + team + ")", ELEMENT, AFTER, t -> t.met(0, team));
            refused("met(" + team + ", 0)", ELEMENT, AFTER, t -> t.met(team, 0));
            refused("met(" + team + ", the same)", ELEMENT, AFTER, t -> t.met(team, team));
        }
        refused("met(12, 12) of 12", ELEMENT, FULL, t -> t.met(12, 12));
        refused("met(0, 0)", ARGUMENT, AFTER, t -> t.met(0, 0));
        refused("met(11, 11)", ARGUMENT, FULL, t -> t.met(11, 11));
    }

    private static void askJudge() {
        for (Stage stage : List.of(EMPTY, FULL, AFTER)) {
            for (int judge : beyond(stage.scene.get().judges())) {
                refused("conflicts " + judge, ELEMENT, stage, t -> t.conflicts(judge));
                refused("mayJudge of judge " + judge, ELEMENT, stage, t -> t.mayJudge(judge, 0));
            }
            for (int team : beyond(stage.scene.get().teams())) {
                refused("mayJudge with team " + team, ELEMENT, stage, t -> t.mayJudge(0, team));
            }
        }
    }

    private static void standing() {
        for (Stage stage : List.of(EMPTY, FULL, AFTER)) {
            for (int rank : beyond(stage.scene.get().teams())) {
                refused("standing " + rank, INDEX, stage, t -> t.standing(rank));
            }
        }
    }

    private static void askBracket() {
        for (Stage stage : List.of(EMPTY, FULL, AFTER, SIXTH_ROUND)) {
            for (int bracket : beyond(stage.scene.get().brackets())) {
                refused("bracketSize " + bracket, INDEX, stage, t -> t.bracketSize(bracket));
                refused("leastPenalty " + bracket, INDEX, stage, t -> t.leastPenalty(bracket));
                refused("leastByTrying " + bracket, INDEX, stage, t -> t.leastByTrying(bracket));
                refused("bracketAt " + bracket, INDEX, stage, t -> t.bracketAt(bracket, 0));
                refused("opponent " + bracket, INDEX, stage, t -> t.opponent(bracket, 0));
            }
        }
    }

    private static void askPlace() {
        for (Stage stage : List.of(FULL, AFTER, SIXTH_ROUND)) {
            for (int bracket = 0; bracket < stage.scene.get().brackets(); bracket++) {
                int it = bracket;
                for (int place : beyond(stage.scene.get().bracketSize(bracket))) {
                    refused("bracketAt " + it + ", " + place, INDEX, stage, t -> t.bracketAt(it, place));
                    refused("opponent " + it + ", " + place, INDEX, stage, t -> t.opponent(it, place));
                }
            }
        }
    }

    private static void oddBrackets() {
        for (int teams = 1; teams <= 11; teams += 2) {
            int[] schools = new int[teams];
            Stage odd = new Stage(() -> withTeams(schools));
            refused("leastPenalty of " + teams, STATE, odd, t -> t.leastPenalty(0));
            refused("leastByTrying of " + teams, STATE, odd, t -> t.leastByTrying(0));
            refused("opponent in " + teams, STATE, odd, t -> t.opponent(0, 0));
            refused("the last opponent in " + teams, STATE, odd, t -> t.opponent(0, schools.length - 1));
            refused("no place in " + teams, INDEX, odd, t -> t.opponent(0, schools.length));
            refused("place -1 in " + teams, INDEX, odd, t -> t.opponent(0, -1));
        }
        Stage last = new Stage(() -> {
            Debatetab tab = fourAfterOne();
            tab.setPresent(0, false);
            return tab;
        });
        refused("leastPenalty of an odd last one", STATE, last, t -> t.leastPenalty(1));
        refused("leastByTrying of an odd last one", STATE, last, t -> t.leastByTrying(1));
        refused("opponent in an odd last one", STATE, last, t -> t.opponent(1, 0));
        refused("no place in an odd last one", INDEX, last, t -> t.opponent(1, 1));
    }

    private static void leastByTrying() {
        refused("leastByTrying of 12", UNSUPPORTED, FULL, t -> t.leastByTrying(0));
        refused("leastByTrying of 10", UNSUPPORTED, new Stage(() -> withTeams(0, 1, 2, 3, 4, 5, 0, 1, 2, 3)),
                t -> t.leastByTrying(0));
    }

    /** The methods that ask for a round. */
    private static void askRound() {
        for (Stage stage : List.of(EMPTY, AFTER, FEWER_ROOMS, SIX_ROUNDS)) {
            for (int round : beyond(stage.scene.get().rounds())) {
                refused("rooms of round " + round, ELEMENT, stage, t -> t.rooms(round));
                refused("teamIn of round " + round, ELEMENT, stage, t -> t.teamIn(round, 0, 'p'));
                refused("judgeIn of round " + round, ELEMENT, stage, t -> t.judgeIn(round, 0));
                refused("penaltyOf of round " + round, ELEMENT, stage, t -> t.penaltyOf(round, 0));
                refused("winner of round " + round, ELEMENT, stage, t -> t.winner(round, 0));
            }
        }
    }

    private static void askRoom() {
        for (int round = 0; round < 2; round++) {
            int it = round;
            for (int room : beyond(round == 0 ? 2 : 1)) {
                refused("teamIn " + it + ", " + room, ELEMENT, FEWER_ROOMS, t -> t.teamIn(it, room, 'o'));
                refused("judgeIn " + it + ", " + room, ELEMENT, FEWER_ROOMS, t -> t.judgeIn(it, room));
                refused("penaltyOf " + it + ", " + room, ELEMENT, FEWER_ROOMS, t -> t.penaltyOf(it, room));
                refused("winner " + it + ", " + room, ELEMENT, FEWER_ROOMS, t -> t.winner(it, room));
            }
        }
    }

    private static void teamIn() {
        for (char side : new char[] {0, '-', 'P', 'O', 'q', 'n', 't', 0x170, 0xffff}) {
            refused("side " + (int) side, ARGUMENT, AFTER, t -> t.teamIn(0, 0, side));
            refused("no room and side " + (int) side, ELEMENT, AFTER, t -> t.teamIn(0, 2, side));
            refused("no round and side " + (int) side, ELEMENT, AFTER, t -> t.teamIn(1, 0, side));
        }
    }

    private static void missing() {
        refused("missing() of none", STATE, EMPTY, Debatetab::missing);
        refused("missing() before a round", STATE, BEFORE, Debatetab::missing);
    }

    private static void nextRoom() {
        refused("nextRoom() of none", STATE, EMPTY, Debatetab::nextRoom);
        refused("nextRoom() before a round", STATE, BEFORE, Debatetab::nextRoom);
        refused("nextRoom() after a round", ELEMENT, AFTER, Debatetab::nextRoom);
        refused("nextRoom() after six rounds", ELEMENT, SIX_ROUNDS, Debatetab::nextRoom);
    }

    private static void askSpeaker() {
        for (int team : beyond(4)) {
            askSpeakerOf(ELEMENT, team, 0);
            askSpeakerOf(ELEMENT, team, 2);
        }
        for (int speaker : beyond(2)) {
            askSpeakerOf(ARGUMENT, 0, speaker);
            refused("speeches in a full one of " + speaker, ARGUMENT, FULL, t -> t.speeches(11, speaker));
            refused("average without speeches of " + speaker, ARGUMENT, FULL, t -> t.average(11, speaker));
            refused("averageBits without speeches of " + speaker, ARGUMENT, FULL, t -> t.averageBits(11, speaker));
            refused("averageTenths without speeches of " + speaker, ARGUMENT, FULL,
                    t -> t.averageTenths(11, speaker));
        }
    }

    private static void askSpeakerOf(Class<? extends RuntimeException> due, int team, int speaker) {
        String who = " of " + team + ", " + speaker;
        refused("speeches" + who, due, AFTER, t -> t.speeches(team, speaker));
        refused("average" + who, due, AFTER, t -> t.average(team, speaker));
        refused("averageBits" + who, due, AFTER, t -> t.averageBits(team, speaker));
        refused("averageTenths" + who, due, AFTER, t -> t.averageTenths(team, speaker));
    }

    /** Of none, and of one whose team has an iron speaker. */
    private static void noSpeeches() {
        Stage iron = new Stage(() -> {
            Debatetab tab = withJudges(1, 0, 1);
            tab.setIron(1, 0);
            tab.draw();
            tab.ballot(0, 70, 70, 70, 71);
            return tab;
        });
        for (Stage stage : List.of(FULL, iron)) {
            refused("average", ARITHMETIC, stage, t -> t.average(1, 1));
            refused("averageBits", ARITHMETIC, stage, t -> t.averageBits(1, 1));
            refused("averageTenths", ARITHMETIC, stage, t -> t.averageTenths(1, 1));
        }
    }

    private static void bestSpeaker() {
        for (int rank : beyond(0)) {
            refused("bestSpeaker of none " + rank, INDEX, BEFORE, t -> t.bestSpeaker(rank));
        }
        // In both teams of room 1 an iron speaker has held both speeches.
        for (int rank : beyond(2)) {
            refused("bestSpeaker " + rank, INDEX, RUNNING, t -> t.bestSpeaker(rank));
        }
        for (int rank : beyond(8)) {
            refused("bestSpeaker of all " + rank, INDEX, AFTER, t -> t.bestSpeaker(rank));
        }
    }

    private static void breaks() {
        for (int size : new int[] {LEAST, -8, -4, -2, -1, 0, 1, 3, 5, 6, 7, 9, 10, 12, 16, MOST}) {
            refused("breaks of size " + size, ARGUMENT, FULL, t -> t.breaks(0, size));
            refused("breaks of seed -1, size " + size, ARGUMENT, FULL, t -> t.breaks(-1, size));
            refused("breaks of a seed too great, size " + size, ARGUMENT, FULL, t -> t.breaks(size, size));
            refused("breaks of no team, size " + size, ARGUMENT, EMPTY, t -> t.breaks(0, size));
        }
        for (int size = 2; size <= 8; size *= 2) {
            int it = size;
            for (int seed : beyond(size)) {
                refused("breaks " + seed + ", " + size, INDEX, FULL, t -> t.breaks(seed, it));
            }
        }
    }

    private static void fewerBreak() {
        for (int size = 2; size <= 8; size *= 2) {
            int it = size;
            refused("no team breaks, size " + size, INDEX, EMPTY, t -> t.breaks(0, it));
        }
        Stage one = new Stage(() -> withTeams(4));
        refused("one team breaks", INDEX, one, t -> t.breaks(1, 2));
        refused("four teams break", INDEX, AFTER, t -> t.breaks(4, 8));
        refused("the last seed of four teams", INDEX, AFTER, t -> t.breaks(7, 8));
        Stage school = new Stage(() -> withTeams(3, 3, 3, 3, 3, 3, 3, 3, 3, 3, 3, 3));
        refused("two of twelve of the same school break", INDEX, school, t -> t.breaks(2, 4));
        refused("the last seed of them", INDEX, school, t -> t.breaks(3, 4));
    }

    private static void people() {
        for (char kind : new char[] {0, 'T', 'J', 's', 'u', 'i', 'k', 'p', 0x174, 0xffff}) {
            refused("people of kind " + (int) kind, ARGUMENT, FULL, t -> t.people(kind));
        }
    }

    private static void meanPenalty() {
        refused("meanPenalty() of none", ARITHMETIC, EMPTY, Debatetab::meanPenalty);
        refused("meanPenalty() before a round", ARITHMETIC, BEFORE, Debatetab::meanPenalty);
    }
}
