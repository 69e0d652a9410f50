/** For each promise of the document: ordinary calls, the edges that it names, and wrong ones, worked out by hand. */
public final class PromiseTest extends Scene {
    private static final Checks CHECKS = new Checks();

    public static void main(String[] args) {
        Runnable[] promises = {
            PromiseTest::newObject, PromiseTest::addTeam, PromiseTest::addJudge, PromiseTest::addConflict,
            PromiseTest::setPresent, PromiseTest::setIron, PromiseTest::draw, PromiseTest::ballot,
            PromiseTest::swap, PromiseTest::teams, PromiseTest::judges, PromiseTest::rounds,
            PromiseTest::schoolOf, PromiseTest::isPresent, PromiseTest::mayJudge, PromiseTest::conflicts,
            PromiseTest::wins, PromiseTest::points, PromiseTest::strength, PromiseTest::standing,
            PromiseTest::met, PromiseTest::proposed, PromiseTest::brackets, PromiseTest::bracketSize,
            PromiseTest::bracketAt, PromiseTest::leastPenalty, PromiseTest::leastByTrying, PromiseTest::opponent,
            PromiseTest::rooms, PromiseTest::teamIn, PromiseTest::judgeIn, PromiseTest::penaltyOf,
            PromiseTest::winner, PromiseTest::missing, PromiseTest::nextRoom, PromiseTest::speeches,
            PromiseTest::average, PromiseTest::averageBits, PromiseTest::averageTenths, PromiseTest::bestSpeaker,
            PromiseTest::breaks, PromiseTest::people, PromiseTest::scores, PromiseTest::meanPenalty,
        };
        for (int i = 0; i < promises.length; i++) {
            CHECKS.begin("promise " + (i + 1));
            promises[i].run();
        }
        CHECKS.end();
    }

    private static void newObject() {
        Debatetab tab = new Debatetab();
        CHECKS.same("teams()", tab.teams(), 0);
        CHECKS.same("judges()", tab.judges(), 0);
        CHECKS.same("rounds()", tab.rounds(), 0);
        CHECKS.same("brackets()", tab.brackets(), 0);
        CHECKS.same("scores()", tab.scores(), 0L);
        Debatetab other = new Debatetab();
        other.addTeam(0);
        CHECKS.same("teams() of another object", tab.teams(), 0);
    }

    private static void addTeam() {
        Debatetab tab = new Debatetab();
        for (int i = 0; i < 12; i++) {
            CHECKS.same("addTeam", tab.addTeam(i % 6), i);
        }
        CHECKS.fails("a 13th team", STATE, () -> tab.addTeam(0));
        CHECKS.fails("a 13th team of no school", ARGUMENT, () -> tab.addTeam(6));
        CHECKS.same("teams()", tab.teams(), 12);
        CHECKS.fails("school 6", ARGUMENT, () -> new Debatetab().addTeam(6));
        CHECKS.fails("school -1", ARGUMENT, () -> new Debatetab().addTeam(-1));
        CHECKS.fails("the least school", ARGUMENT, () -> new Debatetab().addTeam(LEAST));
        CHECKS.fails("the most school", ARGUMENT, () -> new Debatetab().addTeam(MOST));
        CHECKS.same("isPresent(11)", tab.isPresent(11), true);
        CHECKS.same("setIron(11, 0)", tab.setIron(11, 0), -1);
    }

    private static void addJudge() {
        Debatetab tab = new Debatetab();
        for (int i = 0; i < 8; i++) {
            CHECKS.same("addJudge", tab.addJudge(i % 6, i == 0 ? 1 : 9), i);
        }
        CHECKS.fails("a 9th judge", STATE, () -> tab.addJudge(0, 1));
        CHECKS.fails("a 9th judge of no school", ARGUMENT, () -> tab.addJudge(6, 1));
        CHECKS.fails("a 9th judge of no rank", ARGUMENT, () -> tab.addJudge(0, 0));
        CHECKS.fails("rank 0", ARGUMENT, () -> new Debatetab().addJudge(0, 0));
        CHECKS.fails("rank 10", ARGUMENT, () -> new Debatetab().addJudge(0, 10));
        CHECKS.fails("school -1", ARGUMENT, () -> new Debatetab().addJudge(-1, 1));
        CHECKS.fails("school 6", ARGUMENT, () -> new Debatetab().addJudge(6, 9));
        CHECKS.same("judges()", tab.judges(), 8);
    }

    private static void addConflict() {
        Debatetab tab = withJudges(2, 0, 1, 5);
        CHECKS.same("addConflict(0, 0)", tab.addConflict(0, 0), 1);
        CHECKS.same("addConflict(0, 2)", tab.addConflict(0, 2), 2);
        CHECKS.same("addConflict(1, 0)", tab.addConflict(1, 0), 1);
        CHECKS.fails("the same conflict", STATE, () -> tab.addConflict(0, 2));
        CHECKS.fails("judge 2", ELEMENT, () -> tab.addConflict(2, 0));
        CHECKS.fails("judge -1", ELEMENT, () -> tab.addConflict(-1, 0));
        CHECKS.fails("team 3", ELEMENT, () -> tab.addConflict(0, 3));
        CHECKS.fails("team -1", ELEMENT, () -> tab.addConflict(0, -1));
        CHECKS.fails("team 32, whose bit would be that of team 0", ELEMENT, () -> tab.addConflict(0, 32));
        CHECKS.same("conflicts(0)", tab.conflicts(0), 2);
    }

    private static void setPresent() {
        Debatetab tab = withJudges(1, 0, 1, 2);
        CHECKS.same("setPresent(2, false)", tab.setPresent(2, false), true);
        CHECKS.same("setPresent(2, false) again", tab.setPresent(2, false), false);
        CHECKS.same("draw() of two", tab.draw(), 0);
        CHECKS.same("setPresent(2, true)", tab.setPresent(2, true), false);
        CHECKS.same("setPresent(0, false)", tab.setPresent(0, false), true);
        CHECKS.same("the room of the absent team stays", tab.teamIn(0, 0, 'p'), 0);
        CHECKS.fails("team 3", ELEMENT, () -> tab.setPresent(3, true));
        CHECKS.fails("team -1", ELEMENT, () -> tab.setPresent(-1, true));
        CHECKS.same("an absent team is ranked", tab.standing(0), 0);
    }

    private static void setIron() {
        Debatetab tab = withJudges(1, 0, 1);
        CHECKS.same("setIron(0, 1)", tab.setIron(0, 1), -1);
        CHECKS.same("setIron(0, 0)", tab.setIron(0, 0), 1);
        CHECKS.same("setIron(0, -1)", tab.setIron(0, -1), 0);
        CHECKS.same("setIron(0, 1) again", tab.setIron(0, 1), -1);
        CHECKS.fails("speaker 2", ARGUMENT, () -> tab.setIron(0, 2));
        CHECKS.fails("speaker -2", ARGUMENT, () -> tab.setIron(0, -2));
        CHECKS.fails("team 2", ELEMENT, () -> tab.setIron(2, 0));
        CHECKS.fails("team 2 and speaker 2", ELEMENT, () -> tab.setIron(2, 2));
        CHECKS.fails("team -1", ELEMENT, () -> tab.setIron(-1, 0));
        tab.draw();
        tab.ballot(0, 60, 63, 70, 71);
        tab.setIron(0, -1);
        CHECKS.same("speeches of the iron speaker", tab.speeches(0, 1), 2);
        CHECKS.same("speeches of the other one", tab.speeches(0, 0), 0);
        CHECKS.same("speeches of the opposition", tab.speeches(1, 0), 1);
        tab.draw();
        tab.ballot(0, 60, 63, 70, 71);
        CHECKS.same("speeches after the iron speaker", tab.speeches(0, 0) + 10 * tab.speeches(0, 1), 31);
    }

    private static void draw() {
        Debatetab empty = new Debatetab();
        CHECKS.fails("no teams", STATE, empty::draw);
        Debatetab one = withTeams(0);
        CHECKS.fails("one team and no judges", STATE, one::draw);
        CHECKS.fails("no judges", UNSUPPORTED, () -> withTeams(0, 1).draw());
        drawFails();
        drawsSixRounds();
        drawsPullUps();
        drawsSides();
        drawsJudges();
    }

    private static void drawFails() {
        Debatetab tab = withJudges(1, 0, 1, 2, 3);
        CHECKS.fails("one judge for two rooms", UNSUPPORTED, tab::draw);
        CHECKS.same("rounds() after it", tab.rounds(), 0);
        CHECKS.same("met(0, 3) after it", tab.met(0, 3), 0);
        CHECKS.same("proposed(0) after it", tab.proposed(0), 0);
        CHECKS.fails("teamIn(0, 0, p) after it", ELEMENT, () -> tab.teamIn(0, 0, 'p'));
        CHECKS.fails("missing() after it", STATE, tab::missing);
        tab.addJudge(4, 5);
        CHECKS.same("draw()", tab.draw(), 0);
        CHECKS.fails("no ballots", STATE, tab::draw);
        tab.ballot(1, 70, 70, 70, 71);
        CHECKS.fails("one ballot of two", STATE, tab::draw);
        tab.ballot(0, 70, 70, 70, 71);
        tab.setPresent(0, false);
        CHECKS.fails("three teams", STATE, tab::draw);
        tab.setPresent(0, true);
        CHECKS.same("draw() again", tab.draw(), 1);
    }

    private static void drawsSixRounds() {
        Debatetab tab = withJudges(1, 0, 1);
        for (int round = 0; round < 6; round++) {
            CHECKS.same("draw()", tab.draw(), round);
            CHECKS.same("penalty", tab.penaltyOf(round, 0), 100 * round);
            tab.ballot(0, 70, 70, 70, 71);
        }
        CHECKS.fails("a 7th round", STATE, tab::draw);
        CHECKS.same("rounds()", tab.rounds(), 6);
        CHECKS.same("met(0, 1)", tab.met(0, 1), 6);
        CHECKS.same("leastPenalty(0)", tab.leastPenalty(0), 600);
        tab.addTeam(5);
        tab.addTeam(5);
        CHECKS.fails("a 7th round for which the judges would not do", STATE, tab::draw);
    }

    /** After the first round of six, three have won; the best of those that have lost is pulled up. */
    private static void drawsPullUps() {
        Debatetab tab = withJudges(3, 0, 1, 2, 3, 4, 1);
        tab.draw();
        tab.ballot(0, 71, 71, 70, 70);
        tab.ballot(1, 72, 72, 71, 71);
        tab.ballot(2, 73, 73, 70, 71);
        CHECKS.same("brackets()", tab.brackets(), 2);
        CHECKS.same("draw()", tab.draw(), 1);
        CHECKS.same("teams by standing", standings(tab), "2 1 0 4 3 5 ");
        CHECKS.same("rooms", roomsOf(tab, 1), "4-2:0 0-1:0 3-5:0 ");
        CHECKS.same("the number of rooms", tab.rooms(1), 3);
    }

    private static void drawsSides() {
        Debatetab tab = twoAfterOne();
        CHECKS.same("at first the lower number", tab.teamIn(0, 0, 'p'), 0);
        tab.draw();
        CHECKS.same("then the one with fewer rooms", tab.teamIn(1, 0, 'p'), 1);
        CHECKS.same("the opposition", tab.teamIn(1, 0, 'o'), 0);
        tab.ballot(0, 70, 70, 70, 71);
        tab.draw();
        CHECKS.same("of equal ones the lower number", tab.teamIn(2, 0, 'p'), 0);
    }

    private static void drawsJudges() {
        Debatetab ranks = withTeams(0, 1, 2, 3);
        ranks.addJudge(5, 3);
        ranks.addJudge(5, 9);
        ranks.addJudge(5, 9);
        ranks.addJudge(5, 4);
        ranks.draw();
        CHECKS.same("judges by rank, then by number", ranks.judgeIn(0, 0) + 10 * ranks.judgeIn(0, 1), 21);
        Debatetab back = withTeams(0, 1, 2, 3);
        back.addJudge(5, 9);
        back.addJudge(1, 2);
        back.draw();
        CHECKS.same("the first room leaves its best judge to the second", back.judgeIn(0, 0) + 10 * back.judgeIn(0, 1),
                1);
        Debatetab none = withTeams(0, 1, 2, 3);
        none.addJudge(5, 9);
        none.addJudge(1, 2);
        none.addConflict(1, 3);
        CHECKS.fails("a judge who may judge no room", UNSUPPORTED, none::draw);
    }

    private static void ballot() {
        Debatetab empty = withTeams(0, 1);
        CHECKS.fails("no round", STATE, () -> empty.ballot(-1, 0, 0, 0, 0));
        Debatetab tab = fourAfterOne();
        CHECKS.fails("a second ballot", UNSUPPORTED, () -> tab.ballot(0, 70, 70, 75, 75));
        tab.draw();
        CHECKS.fails("room 2 and wrong scores", ELEMENT, () -> tab.ballot(2, 0, 0, 0, 0));
        CHECKS.fails("room -1", ELEMENT, () -> tab.ballot(-1, 60, 60, 60, 61));
        CHECKS.fails("first 59", ARGUMENT, () -> tab.ballot(0, 59, 60, 60, 61));
        CHECKS.fails("second 81", ARGUMENT, () -> tab.ballot(0, 60, 81, 60, 61));
        CHECKS.fails("third 59", ARGUMENT, () -> tab.ballot(0, 60, 60, 59, 61));
        CHECKS.fails("fourth 81", ARGUMENT, () -> tab.ballot(0, 60, 60, 60, 81));
        CHECKS.fails("equal sums", ARGUMENT, () -> tab.ballot(0, 60, 80, 70, 70));
        CHECKS.fails("a score whose sum wraps round", ARGUMENT, () -> tab.ballot(0, MOST, 1, LEAST, 61));
        CHECKS.same("missing() after all that", tab.missing(), 2);
        CHECKS.same("scores() after all that", tab.scores(), 571L);
        CHECKS.same("the opposition wins", tab.ballot(0, 60, 60, 60, 61), tab.teamIn(1, 0, 'o'));
        CHECKS.same("the proposition wins", tab.ballot(1, 80, 80, 80, 79), tab.teamIn(1, 1, 'p'));
        CHECKS.fails("equal sums in a room with a ballot", ARGUMENT, () -> tab.ballot(0, 60, 80, 70, 70));
        CHECKS.fails("a ballot again", UNSUPPORTED, () -> tab.ballot(0, 61, 60, 60, 60));
        CHECKS.same("winner(1, 0)", tab.winner(1, 0), 'o');
    }

    private static void swap() {
        CHECKS.fails("no round", STATE, () -> sixTeams().swap(0, 99));
        swapsPenalties();
        swapsSides();
        swapsNot();
        swapsWithJudges();
    }

    private static void swapsPenalties() {
        Debatetab tab = sixDrawn();
        CHECKS.same("rooms before", roomsOf(tab, 0), "0-3:2 1-4:0 2-5:2 ");
        CHECKS.same("swap(3, 4)", tab.swap(3, 4), 0);
        CHECKS.same("room 0", tab.teamIn(0, 0, 'p') + 10 * tab.teamIn(0, 0, 'o'), 40);
        CHECKS.same("room 1", tab.teamIn(0, 1, 'p') + 10 * tab.teamIn(0, 1, 'o'), 31);
        CHECKS.same("penalties after", tab.penaltyOf(0, 0) + 10 * tab.penaltyOf(0, 1) + 100 * tab.penaltyOf(0, 2), 211);
        CHECKS.same("met(0, 3)", tab.met(0, 3), 0);
        CHECKS.same("met(0, 4)", tab.met(0, 4), 1);
        CHECKS.same("the judge stays", tab.judgeIn(0, 0), 0);
        CHECKS.same("swap(4, 3) back", tab.swap(4, 3), 0);
        CHECKS.same("room 0 again", tab.teamIn(0, 0, 'o'), 3);
        CHECKS.same("penalty again", tab.penaltyOf(0, 0), 2);
    }

    private static void swapsSides() {
        Debatetab tab = sixDrawn();
        CHECKS.same("swap(0, 1)", tab.swap(0, 1), 0);
        CHECKS.same("room 0", tab.teamIn(0, 0, 'p') + 10 * tab.teamIn(0, 0, 'o'), 31);
        CHECKS.same("room 1", tab.teamIn(0, 1, 'p') + 10 * tab.teamIn(0, 1, 'o'), 40);
        CHECKS.same("proposed(0)", tab.proposed(0), 1);
        CHECKS.same("proposed(3)", tab.proposed(3), 0);
        CHECKS.same("the winner of the swapped room", tab.ballot(0, 80, 80, 60, 60), 1);
    }

    private static void swapsNot() {
        Debatetab tab = sixDrawn();
        tab.addTeam(4);
        CHECKS.fails("no such team", ELEMENT, () -> tab.swap(0, 7));
        CHECKS.fails("team -1", ELEMENT, () -> tab.swap(-1, 0));
        CHECKS.fails("a team without a room", ELEMENT, () -> tab.swap(0, 6));
        CHECKS.fails("a team without a room first", ELEMENT, () -> tab.swap(6, 0));
        CHECKS.fails("the same team", UNSUPPORTED, () -> tab.swap(0, 0));
        CHECKS.fails("the same room", UNSUPPORTED, () -> tab.swap(0, 3));
        CHECKS.fails("a greater penalty", UNSUPPORTED, () -> tab.swap(0, 4));
        CHECKS.fails("a greater penalty by school", UNSUPPORTED, () -> tab.swap(3, 5));
        CHECKS.same("room 0 as before", tab.teamIn(0, 0, 'o'), 3);
        tab.setPresent(3, false);
        CHECKS.same("a team that is absent since", tab.swap(3, 4), 0);
        tab.ballot(1, 70, 70, 70, 71);
        CHECKS.fails("a ballot in the other room", UNSUPPORTED, () -> tab.swap(4, 3));
        CHECKS.fails("a ballot in the first room", UNSUPPORTED, () -> tab.swap(3, 4));
        Debatetab four = fourAfterOne();
        four.draw();
        CHECKS.fails("another bracket", UNSUPPORTED, () -> four.swap(2, 0));
    }

    private static void swapsWithJudges() {
        Debatetab coming = sixDrawn();
        coming.addConflict(0, 4);
        CHECKS.fails("a conflict with the one that comes", UNSUPPORTED, () -> coming.swap(3, 4));
        CHECKS.fails("the same the other way round", UNSUPPORTED, () -> coming.swap(4, 3));
        CHECKS.same("the room stays as it was", coming.teamIn(0, 0, 'p') + 10 * coming.teamIn(0, 0, 'o'), 30);
        Debatetab staying = sixDrawn();
        staying.addConflict(1, 1);
        CHECKS.fails("a conflict with the one that stays", UNSUPPORTED, () -> staying.swap(3, 4));
        Debatetab leaving = sixDrawn();
        leaving.addConflict(0, 3);
        CHECKS.same("a conflict with the one that leaves", leaving.swap(3, 4), 0);
        Debatetab elsewhere = sixDrawn();
        elsewhere.addConflict(2, 0);
        CHECKS.same("a conflict of the judge of a third room", elsewhere.swap(3, 4), 0);
    }

    private static void teams() {
        Debatetab tab = withTeams(0, 1, 2);
        CHECKS.same("teams()", tab.teams(), 3);
        tab.setPresent(0, false);
        CHECKS.same("teams() with an absent one", tab.teams(), 3);
    }

    private static void judges() {
        CHECKS.same("judges()", withJudges(4, 0).judges(), 4);
        CHECKS.same("judges() of none", withTeams(0).judges(), 0);
    }

    private static void rounds() {
        Debatetab tab = twoAfterOne();
        CHECKS.same("rounds()", tab.rounds(), 1);
        tab.draw();
        CHECKS.same("rounds() after a draw", tab.rounds(), 2);
    }

    private static void schoolOf() {
        Debatetab tab = withTeams(5, 0, 3);
        CHECKS.same("schoolOf(0)", tab.schoolOf(0), 5);
        CHECKS.same("schoolOf(2)", tab.schoolOf(2), 3);
        CHECKS.fails("team 3", ELEMENT, () -> tab.schoolOf(3));
        CHECKS.fails("team -1", ELEMENT, () -> tab.schoolOf(-1));
        CHECKS.fails("team 12", ELEMENT, () -> tab.schoolOf(12));
    }

    private static void isPresent() {
        Debatetab tab = withTeams(5, 0);
        tab.setPresent(1, false);
        CHECKS.same("isPresent(0)", tab.isPresent(0), true);
        CHECKS.same("isPresent(1)", tab.isPresent(1), false);
        CHECKS.fails("team 2", ELEMENT, () -> tab.isPresent(2));
        CHECKS.fails("team -1", ELEMENT, () -> tab.isPresent(LEAST));
    }

    private static void mayJudge() {
        Debatetab tab = withJudges(2, 0, 5, 1);
        tab.addConflict(0, 0);
        CHECKS.same("a conflict", tab.mayJudge(0, 0), false);
        CHECKS.same("the same school", tab.mayJudge(0, 1), false);
        CHECKS.same("neither", tab.mayJudge(0, 2), true);
        CHECKS.same("another judge's conflict", tab.mayJudge(1, 0), true);
        CHECKS.fails("judge 2", ELEMENT, () -> tab.mayJudge(2, 0));
        CHECKS.fails("team 3", ELEMENT, () -> tab.mayJudge(0, 3));
        CHECKS.fails("judge -1", ELEMENT, () -> tab.mayJudge(-1, 0));
        CHECKS.fails("team -1", ELEMENT, () -> tab.mayJudge(0, -1));
    }

    private static void conflicts() {
        Debatetab tab = withJudges(2, 0, 5, 1);
        tab.addConflict(1, 0);
        tab.addConflict(1, 2);
        CHECKS.same("conflicts(0), the same school is none", tab.conflicts(0), 0);
        CHECKS.same("conflicts(1)", tab.conflicts(1), 2);
        CHECKS.fails("judge 2", ELEMENT, () -> tab.conflicts(2));
        CHECKS.fails("judge -1", ELEMENT, () -> tab.conflicts(-1));
    }

    private static void wins() {
        Debatetab tab = fourAfterOne();
        CHECKS.same("wins", tab.wins(0) + 10 * tab.wins(1) + 100 * tab.wins(2) + 1000 * tab.wins(3), 1100);
        tab.draw();
        CHECKS.same("wins before the ballot", tab.wins(2), 1);
        tab.ballot(0, tab.teamIn(1, 0, 'p') == 2 ? 80 : 60, 70, 70, 70);
        CHECKS.same("wins after it", tab.wins(2), 2);
        CHECKS.fails("team 4", ELEMENT, () -> tab.wins(4));
        CHECKS.fails("team -1", ELEMENT, () -> tab.wins(-1));
    }

    private static void points() {
        Debatetab tab = twoAfterOne();
        CHECKS.same("points(0)", tab.points(0), 140);
        CHECKS.same("points(1)", tab.points(1), 141);
        tab.draw();
        tab.ballot(0, 60, 62, 80, 80);
        CHECKS.same("points(0) as the opposition", tab.points(0), 300);
        CHECKS.same("points(1) as the proposition", tab.points(1), 263);
        CHECKS.fails("team 2", ELEMENT, () -> tab.points(2));
        CHECKS.fails("team -1", ELEMENT, () -> tab.points(-1));
    }

    private static void strength() {
        Debatetab tab = twoAfterOne();
        CHECKS.same("strength(0)", tab.strength(0), 1);
        CHECKS.same("strength(1)", tab.strength(1), 0);
        tab.draw();
        CHECKS.same("a room without a ballot", tab.strength(0), 1);
        tab.ballot(0, 80, 80, 60, 60);
        CHECKS.same("two meetings with one that has won twice", tab.strength(0), 4);
        CHECKS.same("strength(1) again", tab.strength(1), 0);
        CHECKS.fails("team 2", ELEMENT, () -> tab.strength(2));
        CHECKS.fails("team -1", ELEMENT, () -> tab.strength(-1));
    }

    private static void standing() {
        Debatetab tab = fourAfterOne();
        tab.addTeam(0);
        CHECKS.same("standing", standings(tab), "2 3 0 1 4 ");
        CHECKS.fails("rank 5", INDEX, () -> tab.standing(5));
        CHECKS.fails("rank -1", INDEX, () -> tab.standing(-1));
        tab.setPresent(2, false);
        CHECKS.same("standing with an absent one", standings(tab), "2 3 0 1 4 ");
        CHECKS.same("equal ones by number", standings(withTeams(3, 2, 1)), "0 1 2 ");
        standsByStrength();
    }

    /** Teams 0 and 1 have the same wins and points after a round, but 1 has met the one that wins again. */
    private static void standsByStrength() {
        Debatetab tab = withJudges(2, 0, 1, 2, 3);
        tab.draw();
        tab.ballot(0, 70, 70, 71, 71);
        tab.ballot(1, 70, 70, 71, 71);
        CHECKS.same("all equal by strength", standings(tab), "2 3 0 1 ");
        tab.setPresent(0, false);
        tab.setPresent(1, false);
        tab.setPresent(3, false);
        tab.addTeam(4);
        tab.draw();
        CHECKS.same("2 meets 4", tab.teamIn(1, 0, 'p') + 10 * tab.teamIn(1, 0, 'o'), 42);
        tab.ballot(0, 80, 80, 60, 60);
        CHECKS.same("strength(1)", tab.strength(1), 2);
        CHECKS.same("strength(0)", tab.strength(0), 1);
        CHECKS.same("the stronger one stands before the lower number", standings(tab), "2 3 1 0 4 ");
    }

    private static void met() {
        Debatetab tab = twoAfterOne();
        CHECKS.same("met(0, 1)", tab.met(0, 1), 1);
        tab.draw();
        CHECKS.same("met(1, 0) without a ballot", tab.met(1, 0), 2);
        CHECKS.fails("the same team", ARGUMENT, () -> tab.met(1, 1));
        CHECKS.fails("the same team that is none", ELEMENT, () -> tab.met(2, 2));
        CHECKS.fails("team 2", ELEMENT, () -> tab.met(0, 2));
        CHECKS.fails("team -1", ELEMENT, () -> tab.met(-1, 0));
        CHECKS.same("those that have not met", fourAfterOne().met(0, 1), 0);
    }

    private static void proposed() {
        Debatetab tab = twoAfterOne();
        CHECKS.same("proposed(0)", tab.proposed(0), 1);
        CHECKS.same("proposed(1)", tab.proposed(1), 0);
        tab.draw();
        CHECKS.same("proposed(1) at once", tab.proposed(1), 1);
        CHECKS.fails("team 2", ELEMENT, () -> tab.proposed(2));
        CHECKS.fails("team -1", ELEMENT, () -> tab.proposed(-1));
    }

    private static void brackets() {
        Debatetab tab = fourAfterOne();
        CHECKS.same("brackets()", tab.brackets(), 2);
        tab.setPresent(3, false);
        CHECKS.same("with one pulled up and an odd last one", tab.brackets(), 2);
        CHECKS.same("the size of the first one", tab.bracketSize(0), 2);
        tab.setPresent(0, false);
        CHECKS.same("with the last one pulled up", tab.brackets(), 1);
        tab.setPresent(1, false);
        CHECKS.same("of one team", tab.brackets(), 1);
        tab.setPresent(2, false);
        CHECKS.same("of none", tab.brackets(), 0);
    }

    private static void bracketSize() {
        Debatetab tab = fourAfterOne();
        CHECKS.same("bracketSize(0)", tab.bracketSize(0), 2);
        CHECKS.same("bracketSize(1)", tab.bracketSize(1), 2);
        CHECKS.fails("bracket 2", INDEX, () -> tab.bracketSize(2));
        CHECKS.fails("bracket -1", INDEX, () -> tab.bracketSize(-1));
        tab.setPresent(0, false);
        CHECKS.same("an odd last one", tab.bracketSize(1), 1);
        CHECKS.fails("bracket 0 of none", INDEX, () -> new Debatetab().bracketSize(0));
        CHECKS.same("twelve", withTeams(0, 0, 0, 0, 0, 0, 0, 0, 0, 0, 0, 0).bracketSize(0), 12);
    }

    private static void bracketAt() {
        Debatetab tab = fourAfterOne();
        CHECKS.same("bracketAt(0, 0)", tab.bracketAt(0, 0), 2);
        CHECKS.same("bracketAt(0, 1)", tab.bracketAt(0, 1), 3);
        CHECKS.same("bracketAt(1, 0)", tab.bracketAt(1, 0), 0);
        tab.setPresent(3, false);
        CHECKS.same("the one that is pulled up", tab.bracketAt(0, 1), 0);
        CHECKS.fails("place 2", INDEX, () -> tab.bracketAt(0, 2));
        CHECKS.fails("place -1", INDEX, () -> tab.bracketAt(1, -1));
        CHECKS.fails("bracket 2", INDEX, () -> tab.bracketAt(2, 0));
        CHECKS.fails("bracket -1", INDEX, () -> tab.bracketAt(-1, 0));
        CHECKS.fails("the most bracket", INDEX, () -> tab.bracketAt(MOST, MOST));
    }

    private static void leastPenalty() {
        CHECKS.same("of different schools", withTeams(0, 1, 2, 3).leastPenalty(0), 0);
        CHECKS.same("of the same school", withTeams(0, 0, 0, 0).leastPenalty(0), 60);
        CHECKS.same("of two schools", withTeams(0, 1, 1, 0).leastPenalty(0), 2);
        CHECKS.same("of six", sixTeams().leastPenalty(0), 4);
        CHECKS.same("of twelve", withTeams(0, 1, 2, 3, 4, 5, 0, 5, 4, 3, 2, 1).leastPenalty(0), 0);
        Debatetab tab = fourAfterOne();
        CHECKS.same("of those that have not met", tab.leastPenalty(1), 0);
        tab.setPresent(1, false);
        tab.setPresent(2, false);
        CHECKS.same("of those that have met", tab.leastPenalty(0), 100);
        CHECKS.fails("bracket 1", INDEX, () -> tab.leastPenalty(1));
        CHECKS.fails("bracket -1", INDEX, () -> tab.leastPenalty(-1));
        CHECKS.fails("an odd bracket", STATE, () -> withTeams(0, 1, 2).leastPenalty(0));
        Debatetab drawn = withJudges(1, 0, 1);
        drawn.draw();
        CHECKS.same("a meeting without a ballot", drawn.leastPenalty(0), 100);
    }

    private static void leastByTrying() {
        CHECKS.same("of the same school", withTeams(0, 0, 0, 0).leastByTrying(0), 60);
        CHECKS.same("of two schools", withTeams(0, 1, 1, 0).leastByTrying(0), 2);
        CHECKS.same("of six", sixTeams().leastByTrying(0), 4);
        CHECKS.same("of eight", withTeams(0, 1, 2, 3, 3, 2, 1, 0).leastByTrying(0), 4);
        CHECKS.fails("ten", UNSUPPORTED, () -> withTeams(0, 1, 2, 3, 3, 2, 1, 0, 0, 0).leastByTrying(0));
        CHECKS.fails("nine", STATE, () -> withTeams(0, 1, 2, 3, 3, 2, 1, 0, 0).leastByTrying(0));
        CHECKS.fails("bracket 1", INDEX, () -> withTeams(0, 1).leastByTrying(1));
        CHECKS.fails("bracket -1", INDEX, () -> withTeams(0, 1).leastByTrying(-1));
    }

    private static void opponent() {
        Debatetab tab = sixTeams();
        int[] due = {3, 4, 5, 0, 1, 2};
        for (int place = 0; place < 6; place++) {
            CHECKS.same("of several best ones that with the lower places", tab.opponent(0, place), due[place]);
        }
        CHECKS.same("of twelve", withTeams(0, 1, 2, 3, 4, 5, 0, 5, 4, 3, 2, 1).opponent(0, 2), 9);
        CHECKS.fails("place 6", INDEX, () -> tab.opponent(0, 6));
        CHECKS.fails("place -1", INDEX, () -> tab.opponent(0, -1));
        CHECKS.fails("bracket 1", INDEX, () -> tab.opponent(1, 0));
        CHECKS.fails("an odd bracket", STATE, () -> withTeams(0, 1, 2).opponent(0, 2));
        CHECKS.fails("no place of an odd bracket", INDEX, () -> withTeams(0, 1, 2).opponent(0, 3));
    }

    private static void rooms() {
        Debatetab tab = fourAfterOne();
        tab.setPresent(0, false);
        tab.setPresent(1, false);
        tab.draw();
        CHECKS.same("rooms(0)", tab.rooms(0), 2);
        CHECKS.same("rooms(1)", tab.rooms(1), 1);
        CHECKS.fails("round 2", ELEMENT, () -> tab.rooms(2));
        CHECKS.fails("round -1", ELEMENT, () -> tab.rooms(-1));
        CHECKS.fails("round 6", ELEMENT, () -> tab.rooms(6));
    }

    private static void teamIn() {
        Debatetab tab = fourAfterOne();
        CHECKS.same("teamIn(0, 1, p)", tab.teamIn(0, 1, 'p'), 1);
        CHECKS.same("teamIn(0, 1, o)", tab.teamIn(0, 1, 'o'), 2);
        CHECKS.fails("side P", ARGUMENT, () -> tab.teamIn(0, 1, 'P'));
        CHECKS.fails("room 2 and side x", ELEMENT, () -> tab.teamIn(0, 2, 'x'));
        CHECKS.fails("room -1", ELEMENT, () -> tab.teamIn(0, -1, 'p'));
        CHECKS.fails("round 1", ELEMENT, () -> tab.teamIn(1, 0, 'x'));
        CHECKS.fails("round -1", ELEMENT, () -> tab.teamIn(-1, 0, 'p'));
    }

    private static void judgeIn() {
        Debatetab tab = withTeams(0, 1, 2, 3);
        tab.addJudge(5, 1);
        tab.addJudge(5, 2);
        tab.draw();
        CHECKS.same("judgeIn(0, 0)", tab.judgeIn(0, 0), 1);
        CHECKS.same("judgeIn(0, 1)", tab.judgeIn(0, 1), 0);
        CHECKS.fails("room 2", ELEMENT, () -> tab.judgeIn(0, 2));
        CHECKS.fails("room -1", ELEMENT, () -> tab.judgeIn(0, -1));
        CHECKS.fails("round 1", ELEMENT, () -> tab.judgeIn(1, 0));
        CHECKS.fails("round -1", ELEMENT, () -> tab.judgeIn(-1, 0));
    }

    private static void penaltyOf() {
        Debatetab tab = withJudges(1, 0, 0);
        tab.draw();
        tab.ballot(0, 70, 70, 70, 71);
        tab.draw();
        CHECKS.same("by school", tab.penaltyOf(0, 0), 30);
        CHECKS.same("by school and a meeting", tab.penaltyOf(1, 0), 130);
        CHECKS.same("by places", sixDrawn().penaltyOf(0, 2), 2);
        CHECKS.fails("room 1", ELEMENT, () -> tab.penaltyOf(0, 1));
        CHECKS.fails("room -1", ELEMENT, () -> tab.penaltyOf(0, -1));
        CHECKS.fails("round 2", ELEMENT, () -> tab.penaltyOf(2, 0));
        CHECKS.fails("round -1", ELEMENT, () -> tab.penaltyOf(-1, 0));
    }

    private static void winner() {
        Debatetab tab = twoAfterOne();
        tab.draw();
        CHECKS.same("winner(0, 0)", tab.winner(0, 0), 'o');
        CHECKS.same("winner(1, 0)", tab.winner(1, 0), '-');
        tab.ballot(0, 80, 60, 79, 60);
        CHECKS.same("winner(1, 0) after the ballot", tab.winner(1, 0), 'p');
        CHECKS.fails("room 1", ELEMENT, () -> tab.winner(0, 1));
        CHECKS.fails("room -1", ELEMENT, () -> tab.winner(0, -1));
        CHECKS.fails("round 2", ELEMENT, () -> tab.winner(2, 0));
        CHECKS.fails("round -1", ELEMENT, () -> tab.winner(-1, 0));
    }

    private static void missing() {
        CHECKS.fails("no round", STATE, () -> withTeams(0, 1).missing());
        Debatetab tab = sixDrawn();
        CHECKS.same("missing()", tab.missing(), 3);
        tab.ballot(1, 70, 70, 70, 71);
        CHECKS.same("missing() after a ballot", tab.missing(), 2);
        CHECKS.same("missing() of none", fourAfterOne().missing(), 0);
    }

    private static void nextRoom() {
        CHECKS.fails("no round", STATE, () -> withTeams(0, 1).nextRoom());
        Debatetab tab = sixDrawn();
        CHECKS.same("nextRoom()", tab.nextRoom(), 0);
        tab.ballot(1, 70, 70, 70, 71);
        CHECKS.same("nextRoom() after a later one", tab.nextRoom(), 0);
        tab.ballot(0, 70, 70, 70, 71);
        CHECKS.same("nextRoom() after both", tab.nextRoom(), 2);
        tab.ballot(2, 70, 70, 70, 71);
        CHECKS.fails("all have one", ELEMENT, tab::nextRoom);
    }

    /** Team 0 has held 70, 70 and, by its iron speaker 1, 61 and 62; team 1 70, 71 and 80, 79. */
    private static Debatetab withIron() {
        Debatetab tab = twoAfterOne();
        tab.setIron(0, 1);
        tab.draw();
        tab.ballot(0, 80, 79, 61, 62);
        return tab;
    }

    private static void speeches() {
        Debatetab tab = withIron();
        CHECKS.same("speeches(0, 0)", tab.speeches(0, 0), 1);
        CHECKS.same("speeches(0, 1)", tab.speeches(0, 1), 3);
        CHECKS.same("speeches(1, 0)", tab.speeches(1, 0), 2);
        CHECKS.same("speeches(1, 1)", tab.speeches(1, 1), 2);
        CHECKS.same("of none", withTeams(0).speeches(0, 1), 0);
        CHECKS.fails("speaker 2", ARGUMENT, () -> tab.speeches(0, 2));
        CHECKS.fails("speaker -1", ARGUMENT, () -> tab.speeches(0, -1));
        CHECKS.fails("team 2 and speaker 2", ELEMENT, () -> tab.speeches(2, 2));
        CHECKS.fails("team -1", ELEMENT, () -> tab.speeches(-1, 0));
    }

    private static void average() {
        Debatetab tab = withIron();
        CHECKS.same("average(0, 0)", tab.average(0, 0), 70.0f);
        CHECKS.same("average(0, 1)", tab.average(0, 1), 193.0f / 3.0f);
        CHECKS.same("average(1, 0)", tab.average(1, 0), 75.0f);
        CHECKS.fails("no speeches", ARITHMETIC, () -> withTeams(0).average(0, 1));
        CHECKS.fails("speaker 2", ARGUMENT, () -> withTeams(0).average(0, 2));
        CHECKS.fails("speaker -1", ARGUMENT, () -> tab.average(0, -1));
        CHECKS.fails("team 2 and speaker 2", ELEMENT, () -> tab.average(2, 2));
        CHECKS.fails("team -1", ELEMENT, () -> tab.average(-1, 0));
    }

    private static void averageBits() {
        Debatetab tab = withIron();
        CHECKS.same("averageBits(0, 0)", tab.averageBits(0, 0), 0x428C0000);
        CHECKS.same("averageBits(0, 1)", tab.averageBits(0, 1), Float.floatToIntBits(193.0f / 3.0f));
        CHECKS.same("averageBits(1, 1)", tab.averageBits(1, 1), 0x42960000);
        CHECKS.fails("no speeches", ARITHMETIC, () -> withTeams(0).averageBits(0, 1));
        CHECKS.fails("speaker 2", ARGUMENT, () -> withTeams(0).averageBits(0, 2));
        CHECKS.fails("team 2 and speaker 2", ELEMENT, () -> tab.averageBits(2, 2));
        CHECKS.fails("team -1", ELEMENT, () -> tab.averageBits(-1, 0));
        for (int score = 60; score <= 79; score++) {
            Debatetab edge = withJudges(1, 0, 1);
            edge.setIron(0, 0);
            edge.draw();
            edge.ballot(0, score, score + 1, score == 70 ? 60 : 70, 70);
            CHECKS.same("averageBits", edge.averageBits(0, 0), Float.floatToIntBits(score + 0.5f));
        }
        averageBitsOfLongSums();
    }

    /** Averages on both sides of 64, where the exponent changes, with as many speeches as there can be. */
    private static void averageBitsOfLongSums() {
        for (int low = 60; low <= 68; low++) {
            Debatetab tab = withJudges(1, 0, 1);
            tab.setIron(0, 0);
            int sum = 0;
            for (int round = 0; round < 6; round++) {
                tab.draw();
                int score = low + round % 3;
                boolean proposes = tab.teamIn(round, 0, 'p') == 0;
                tab.ballot(0, proposes ? score : 80, proposes ? low : 80, proposes ? 80 : score, proposes ? 80 : low);
                sum += score + low;
                float due = (float) sum / (float) (2 * round + 2);
                CHECKS.same("averageBits", tab.averageBits(0, 0), Float.floatToIntBits(due));
                CHECKS.same("averageTenths", tab.averageTenths(0, 0), (int) (due * 10.0f));
            }
        }
    }

    private static void averageTenths() {
        Debatetab tab = withIron();
        CHECKS.same("averageTenths(0, 0)", tab.averageTenths(0, 0), 700);
        CHECKS.same("averageTenths(0, 1)", tab.averageTenths(0, 1), 643);
        CHECKS.fails("no speeches", ARITHMETIC, () -> withTeams(0).averageTenths(0, 1));
        CHECKS.fails("speaker 2", ARGUMENT, () -> withTeams(0).averageTenths(0, 2));
        CHECKS.fails("team 2 and speaker 2", ELEMENT, () -> tab.averageTenths(2, 2));
        CHECKS.fails("team -1", ELEMENT, () -> tab.averageTenths(-1, 0));
    }

    private static void bestSpeaker() {
        Debatetab tab = withIron();
        CHECKS.same("by average, of equal ones the lower", firstSpeakers(tab, 4), "2 3 0 1 ");
        CHECKS.fails("rank 4", INDEX, () -> tab.bestSpeaker(4));
        CHECKS.fails("rank -1", INDEX, () -> tab.bestSpeaker(-1));
        CHECKS.fails("rank 0 of none", INDEX, () -> withTeams(0, 1).bestSpeaker(0));
        Debatetab more = twoAfterOne();
        more.draw();
        more.setIron(1, 1);
        more.ballot(0, 69, 70, 70, 71);
        CHECKS.same("of equal averages the one with more speeches", firstSpeakers(more, 4), "1 3 0 2 ");
        more.setIron(0, 0);
        more.draw();
        more.ballot(0, 80, 80, 70, 70);
        CHECKS.same("those with no speech are left out", firstSpeakers(more, 4), "0 1 3 2 ");
    }

    private static void breaks() {
        Debatetab tab = withTeams(1, 1, 1, 2, 2, 1, 2, 3, 0);
        int[] due = {0, 1, 3, 4, 7, 8};
        for (int seed = 0; seed < due.length; seed++) {
            CHECKS.same("breaks of 8", tab.breaks(seed, 8), due[seed]);
        }
        CHECKS.fails("seed 6, as fewer break", INDEX, () -> tab.breaks(6, 8));
        CHECKS.fails("seed 8", INDEX, () -> tab.breaks(8, 8));
        CHECKS.same("breaks(3, 4)", tab.breaks(3, 4), 4);
        CHECKS.fails("seed 4 of 4", INDEX, () -> tab.breaks(4, 4));
        CHECKS.same("breaks(1, 2)", tab.breaks(1, 2), 1);
        CHECKS.fails("seed 2 of 2", INDEX, () -> tab.breaks(2, 2));
        CHECKS.fails("seed -1", INDEX, () -> tab.breaks(-1, 2));
        for (int size : new int[] {0, 1, 3, 5, 6, 7, 16, -2, LEAST, MOST}) {
            CHECKS.fails("size " + size, ARGUMENT, () -> tab.breaks(-1, size));
        }
        tab.setPresent(0, false);
        CHECKS.same("an absent team breaks", tab.breaks(0, 2), 0);
        CHECKS.same("by standing", fourAfterOne().breaks(0, 2), 2);
    }

    private static void people() {
        Debatetab tab = withJudges(3, 0, 1);
        CHECKS.same("people(t)", tab.people('t'), 2);
        CHECKS.same("people(j)", tab.people('j'), 3);
        CHECKS.fails("kind T", ARGUMENT, () -> tab.people('T'));
        CHECKS.fails("kind 0", ARGUMENT, () -> tab.people((char) 0));
        CHECKS.fails("kind 65535", ARGUMENT, () -> tab.people((char) 65535));
    }

    private static void scores() {
        CHECKS.same("scores()", withIron().scores(), 563L);
        CHECKS.same("scores() of none", sixDrawn().scores(), 0L);
    }

    private static void meanPenalty() {
        CHECKS.fails("no rooms", ARITHMETIC, () -> withTeams(0, 1).meanPenalty());
        Debatetab tab = sixDrawn();
        CHECKS.same("meanPenalty()", tab.meanPenalty(), 4.0 / 3.0);
        Debatetab two = twoAfterOne();
        CHECKS.same("meanPenalty() of 0", two.meanPenalty(), 0.0);
        two.draw();
        CHECKS.same("meanPenalty() over rounds", two.meanPenalty(), 50.0);
    }
}
