/**
 * Each sentence of the document's "Terms" that names a limit, an order or an "or", and the limits that the promises
 * name, with answers worked out by hand. What is refused stands in ThrowsTest.
 */
public final class TermsTest extends Scene {
    private static final Checks CHECKS = new Checks();

    public static void main(String[] args) {
        CHECKS.begin("calls");
        callsUpToTheLast();
        CHECKS.begin("teams and judges");
        numbersAndSchools();
        presence();
        conflicts();
        CHECKS.begin("standing");
        standingOrder();
        strengths();
        CHECKS.begin("brackets");
        pullUps();
        pullUpsFromBelow();
        bracketsAtAnyTime();
        CHECKS.begin("penalties");
        penaltiesOfPairs();
        penaltiesOfPlaces();
        equalPairings();
        triedPairings();
        CHECKS.begin("rounds");
        fullTournament();
        roomNumbers();
        sides();
        sidesAfterSwaps();
        judgesByRank();
        judgesOfBothTeams();
        roundsBefore();
        roundsAfterRefusedOnes();
        CHECKS.begin("ballots");
        scoresAtTheirBounds();
        sumsThatDifferByOne();
        speakersOfSpeeches();
        ironSpeakers();
        CHECKS.begin("swaps");
        swapsInASecondBracket();
        swapsAndRoundsBefore();
        swapsOnAndOn();
        swapsOfAbsentTeams();
        penaltiesStay();
        CHECKS.begin("what promises add");
        firstRoomWithoutBallot();
        averages();
        everyAverage();
        bestSpeakers();
        breaksBySchool();
        means();
        CHECKS.end();
    }

    /** An object is used for at most 512 calls, so the last one must still be answered. */
    private static void callsUpToTheLast() {
        Debatetab tab = withJudges(1, 0, 1);
        for (int call = 4; call < 512; call++) {
            boolean isPresent = call % 2 == 1;
            CHECKS.same("call " + call, tab.setPresent(1, isPresent), !isPresent);
        }
        CHECKS.same("call 512", tab.draw(), 0);
    }

    private static void numbersAndSchools() {
        Debatetab tab = new Debatetab();
        for (int i = 0; i < 12; i++) {
            CHECKS.same("teams before", tab.teams(), i);
            CHECKS.same("the number of a team", tab.addTeam(5 - i % 6), i);
            CHECKS.same("its school", tab.schoolOf(i), 5 - i % 6);
        }
        for (int i = 0; i < 8; i++) {
            CHECKS.same("judges before", tab.judges(), i);
            CHECKS.same("the number of a judge", tab.addJudge(i % 6, 9 - i), i);
            for (int team = 0; team < 12; team++) {
                CHECKS.same("who may judge whom", tab.mayJudge(i, team), i % 6 != 5 - team % 6);
            }
        }
        CHECKS.same("people", tab.people('t') + 100 * tab.people('j'), 812);
        CHECKS.same("the ranks 1 and 9", new Debatetab().addJudge(0, 1) + new Debatetab().addJudge(5, 9), 0);
    }

    private static void presence() {
        Debatetab tab = full();
        for (int team = 0; team < 12; team++) {
            CHECKS.same("present at first", tab.isPresent(team), true);
            CHECKS.same("no iron speaker at first", tab.setIron(team, 1), -1);
            CHECKS.same("nothing won", tab.wins(team) + tab.points(team) + tab.strength(team) + tab.proposed(team), 0);
        }
        CHECKS.same("setPresent(11, true), present before", tab.setPresent(11, true), true);
        CHECKS.same("setPresent(11, false)", tab.setPresent(11, false), true);
        CHECKS.same("isPresent(11)", tab.isPresent(11), false);
        CHECKS.same("isPresent(10)", tab.isPresent(10), true);
        CHECKS.same("setPresent(11, true), absent before", tab.setPresent(11, true), false);
        CHECKS.same("isPresent(11) again", tab.isPresent(11), true);
    }

    /** Judge 7 of school 1 and team 3 of school 1: a conflict may be told of them, too. */
    private static void conflicts() {
        Debatetab tab = full();
        for (int team = 0; team < 12; team++) {
            CHECKS.same("addConflict(7, ..)", tab.addConflict(7, team), team + 1);
            CHECKS.same("mayJudge(7, ..)", tab.mayJudge(7, team), false);
            CHECKS.same("another judge of the school", tab.mayJudge(1, team), team / 2 != 1);
        }
        CHECKS.same("conflicts(7)", tab.conflicts(7), 12);
        CHECKS.same("conflicts(1)", tab.conflicts(1), 0);
        CHECKS.same("addConflict(0, 11)", tab.addConflict(0, 11), 1);
        CHECKS.same("mayJudge(0, 11)", tab.mayJudge(0, 11), false);
        CHECKS.same("mayJudge(0, 10) of the same school as 11", tab.mayJudge(0, 10), true);
    }

    private static void standingOrder() {
        Debatetab wins = withJudges(2, 0, 1, 2, 3);
        wins.draw();
        wins.ballot(0, 60, 60, 60, 61);
        wins.ballot(1, 80, 79, 80, 80);
        CHECKS.same("wins before points", standings(wins), "2 3 1 0 ");
        Debatetab points = withJudges(2, 0, 1, 2, 3);
        points.draw();
        points.ballot(0, 70, 71, 75, 75);
        points.ballot(1, 70, 70, 75, 75);
        points.setPresent(0, false);
        points.setPresent(1, false);
        points.setPresent(3, false);
        points.addTeam(4);
        points.draw();
        winFor(points, 2, 0);
        CHECKS.same("the one with less points is the stronger one", points.strength(1) - points.strength(0), 1);
        CHECKS.same("points before strengths", standings(points), "2 3 0 1 4 ");
        CHECKS.same("of equal ones the lower number", standings(full()), "0 1 2 3 4 5 6 7 8 9 10 11 ");
    }

    private static void strengths() {
        Debatetab tab = fourAfterOne();
        CHECKS.same("those that have lost", tab.strength(0) + 10 * tab.strength(1), 11);
        CHECKS.same("those that have won", tab.strength(2) + 10 * tab.strength(3), 0);
        tab.draw();
        CHECKS.same("the round without ballots does not count", tab.strength(2) + 10 * tab.strength(3), 0);
        CHECKS.same("rooms", roomsOf(tab, 1), "2-3:0 0-1:0 ");
        tab.ballot(0, 80, 80, 60, 60);
        CHECKS.same("3 has met 2, which has won twice", tab.strength(3), 2);
        CHECKS.same("2 has met 1 and 3", tab.strength(2), 1);
        CHECKS.same("1 has met 2, the other room has no ballot", tab.strength(1), 2);
        CHECKS.same("0 has met 3", tab.strength(0), 1);
        tab.ballot(1, 60, 60, 80, 80);
        CHECKS.same("0 has met 3 and 1", tab.strength(0), 2);
        CHECKS.same("2 has met 1, which has won now, and 3", tab.strength(2), 2);
        Debatetab swapped = sixDrawn();
        swapped.swap(3, 4);
        winFor(swapped, 4, 0);
        CHECKS.same("the opponent is the one after the swap", swapped.strength(0), 1);
        CHECKS.same("and not the one before", swapped.strength(3) + swapped.strength(1), 0);
    }

    /** Four teams: 2 beats 3 and 0 beats 1 in the second round, so that 2, 3, 0 and 1 have 2, 1, 1 and 0 wins. */
    private static void pullUps() {
        Debatetab tab = fourAfterOne();
        CHECKS.same("even ones pull up none", bracketsOf(tab), "2 3 | 0 1 | ");
        tab.draw();
        winFor(tab, 2, 0);
        winFor(tab, 0, 1);
        CHECKS.same("the next bracket is of those that are left", bracketsOf(tab), "2 3 | 0 1 | ");
        tab.setPresent(3, false);
        CHECKS.same("the next one that is present, an odd last one", bracketsOf(tab), "2 0 | 1 | ");
        tab.setPresent(0, false);
        CHECKS.same("from two below", bracketsOf(tab), "2 1 | ");
        tab.setPresent(2, false);
        CHECKS.same("none to pull up", bracketsOf(tab), "1 | ");
        tab.setPresent(0, true);
        CHECKS.same("the first bracket is that of the first present team", bracketsOf(tab), "0 1 | ");
        tab.setPresent(3, true);
        CHECKS.same("two equal ones", bracketsOf(tab), "3 0 | 1 | ");
    }

    /** Six teams after a round that 0, 1 and 2 have won; 4 has most points of the others. */
    private static Debatetab threeAndThree() {
        Debatetab tab = withJudges(3, 0, 1, 2, 3, 4, 1);
        tab.draw();
        tab.ballot(0, 75, 75, 60, 61);
        tab.ballot(1, 74, 74, 70, 70);
        tab.ballot(2, 73, 73, 65, 65);
        return tab;
    }

    private static void pullUpsFromBelow() {
        Debatetab tab = threeAndThree();
        CHECKS.same("rooms", roomsOf(tab, 0), "0-5:0 1-4:0 2-3:0 ");
        CHECKS.same("three and one of three", bracketsOf(tab), "0 1 2 4 | 3 5 | ");
        CHECKS.same("sizes", tab.bracketSize(0) + 10 * tab.bracketSize(1), 24);
        tab.setPresent(4, false);
        CHECKS.same("three and one of two", bracketsOf(tab), "0 1 2 3 | 5 | ");
        tab.setPresent(3, false);
        CHECKS.same("three and the last one", bracketsOf(tab), "0 1 2 5 | ");
        tab.setPresent(5, false);
        CHECKS.same("three", bracketsOf(tab), "0 1 2 | ");
        tab.setPresent(1, false);
        CHECKS.same("two", bracketsOf(tab), "0 2 | ");
        tab.addTeam(0);
        CHECKS.same("two and a new one", bracketsOf(tab), "0 2 | 6 | ");
        CHECKS.same("of twelve", bracketsOf(full()), "0 1 2 3 4 5 6 7 8 9 10 11 | ");
        CHECKS.same("of none", bracketsOf(new Debatetab()), "");
    }

    /** Brackets are told also where a round cannot be drawn. */
    private static void bracketsAtAnyTime() {
        Debatetab open = sixDrawn();
        CHECKS.same("without ballots", bracketsOf(open), "0 1 2 3 4 5 | ");
        CHECKS.same("the meetings count at once", opponentsIn(open, 0), "4 2 1 5 0 3 ");
        CHECKS.same("their penalty", open.leastPenalty(0) + 100 * open.leastByTrying(0), 606);
        Debatetab over = sixRounds();
        CHECKS.same("after six rounds", bracketsOf(over), "1 0 | ");
        CHECKS.same("their opponents", opponentsIn(over, 0), "1 0 ");
        CHECKS.same("their penalty after six rounds", over.leastPenalty(0), 600);
        CHECKS.same("without judges", withTeams(0, 1).brackets(), 1);
        CHECKS.same("of one team", bracketsOf(withTeams(4)), "0 | ");
    }

    private static void penaltiesOfPairs() {
        for (int school = 0; school < 2; school++) {
            Debatetab tab = withJudges(1, 0, school);
            for (int round = 0; round < 6; round++) {
                int due = 100 * round + (school == 0 ? 30 : 0);
                CHECKS.same("leastPenalty", tab.leastPenalty(0), due);
                CHECKS.same("leastByTrying", tab.leastByTrying(0), due);
                tab.draw();
                CHECKS.same("penaltyOf", tab.penaltyOf(round, 0), due);
                CHECKS.same("leastPenalty at once", tab.leastPenalty(0), due + 100);
                winFor(tab, round % 2, 0);
            }
        }
    }

    /** Four teams that have one win each, by points in the order 0, 1, 2, 3; 0 and 3 have met twice, 1 and 2 too. */
    private static Debatetab fourWithOneWin(int... schools) {
        Debatetab tab = withJudges(2, schools);
        tab.draw();
        tab.ballot(0, 79, 79, 80, 79);
        tab.ballot(1, 75, 75, 75, 76);
        tab.setPresent(1, false);
        tab.setPresent(2, false);
        tab.draw();
        tab.ballot(0, 60, 60, 80, 80);
        for (int team = 0; team < 4; team++) {
            tab.setPresent(team, team == 1 || team == 2);
        }
        tab.draw();
        tab.ballot(0, 70, 70, 75, 75);
        tab.setPresent(0, true);
        tab.setPresent(3, true);
        return tab;
    }

    private static void penaltiesOfPlaces() {
        Debatetab crossed = fourWithOneWin(0, 1, 2, 3);
        CHECKS.same("the bracket", bracketsOf(crossed), "0 1 2 3 | ");
        CHECKS.same("met twice", crossed.met(0, 3) + 10 * crossed.met(1, 2), 22);
        CHECKS.same("one less and one more", crossed.leastPenalty(0), 2);
        CHECKS.same("the opponents", opponentsIn(crossed, 0), "2 3 0 1 ");
        crossed.draw();
        CHECKS.same("the rooms", roomsOf(crossed, 3), "0-2:1 1-3:1 ");
        Debatetab neighbours = fourWithOneWin(0, 1, 0, 3);
        CHECKS.same("two less and two more", neighbours.leastPenalty(0), 4);
        CHECKS.same("the neighbours", opponentsIn(neighbours, 0), "1 0 3 2 ");
        neighbours.draw();
        CHECKS.same("the rooms of neighbours", roomsOf(neighbours, 3), "0-1:2 2-3:2 ");
        Debatetab either = fourWithOneWin(0, 0, 0, 0);
        CHECKS.same("a school for all", either.leastPenalty(0), 62);
        CHECKS.same("the first one meets the last one, and so on", opponentsIn(full(), 0),
                "11 10 9 8 7 6 5 4 3 2 1 0 ");
        CHECKS.same("without a penalty", full().leastPenalty(0), 0);
    }

    private static void equalPairings() {
        Debatetab first = sixTeams();
        CHECKS.same("{0, 3}, {1, 4} rather than {0, 4}, {1, 3}", opponentsIn(first, 0), "3 4 5 0 1 2 ");
        Debatetab second = withTeams(0, 1, 2, 3, 0, 0);
        CHECKS.same("{0, 3} in both, {1, 4} rather than {1, 5}", opponentsIn(second, 0), "3 4 5 0 1 2 ");
        CHECKS.same("the penalty of both", second.leastPenalty(0) + 10 * second.leastByTrying(0), 44);
        CHECKS.same("a less one goes before lower places", opponentsIn(withTeams(0, 0, 1, 2, 3, 4), 0), "5 4 3 2 1 0 ");
    }

    private static void triedPairings() {
        for (int teams = 2; teams <= 8; teams += 2) {
            Debatetab tab = withTeams(new int[teams]);
            CHECKS.same("of one school", tab.leastByTrying(0), 15 * teams);
            CHECKS.same("by a search", tab.leastPenalty(0), 15 * teams);
            tab.addTeam(0);
            tab.setPresent(0, false);
            CHECKS.same("without the first one", tab.leastByTrying(0), 15 * teams);
        }
        for (int teams = 10; teams <= 12; teams += 2) {
            CHECKS.same("of more than 8, by a search", withTeams(new int[teams]).leastPenalty(0), 15 * teams);
        }
        Debatetab tab = threeAndThree();
        CHECKS.same("the first bracket", tab.leastPenalty(0) + 10 * tab.leastByTrying(0), 0);
        CHECKS.same("its opponents", opponentsIn(tab, 0), "3 2 1 0 ");
        CHECKS.same("the second bracket", tab.leastPenalty(1) + 10 * tab.leastByTrying(1), 0);
        CHECKS.same("its opponents, told in places", opponentsIn(tab, 1), "1 0 ");
    }

    /** Twelve teams, eight judges and six rounds: as much as there can be. */
    private static void fullTournament() {
        Debatetab tab = withJudges(8, 0, 1, 2, 3, 4, 0, 1, 2, 3, 4, 0, 1);
        for (int round = 0; round < 6; round++) {
            CHECKS.same("draw()", tab.draw(), round);
            CHECKS.same("rooms", tab.rooms(round), 6);
            CHECKS.same("missing()", tab.missing(), 6);
            checkRound(tab, round);
            for (int room = 0; room < 6; room++) {
                CHECKS.same("nextRoom()", tab.nextRoom(), room);
                tab.ballot(room, 60 + 2 * room, 80, 79, 60 + 2 * round);
            }
            CHECKS.same("missing() none", tab.missing(), 0);
            CHECKS.fails("no next room", ELEMENT, tab::nextRoom);
            CHECKS.same("meanPenalty()", tab.meanPenalty(), penaltiesUntil(tab, round) / (6.0 * round + 6.0));
        }
        checkSums(tab);
    }

    private static double penaltiesUntil(Debatetab tab, int last) {
        int sum = 0;
        for (int round = 0; round <= last; round++) {
            for (int room = 0; room < tab.rooms(round); room++) {
                sum += tab.penaltyOf(round, room);
            }
        }
        return sum;
    }

    /** Each team has a room, and each room a judge of its own. */
    private static void checkRound(Debatetab tab, int round) {
        int teams = 0;
        int judges = 0;
        for (int room = 0; room < 6; room++) {
            int judge = tab.judgeIn(round, room);
            judges |= 1 << judge;
            for (char side : new char[] {'p', 'o'}) {
                int team = tab.teamIn(round, room, side);
                teams |= 1 << team;
                CHECKS.isTrue("judge " + judge + " and team " + team, tab.mayJudge(judge, team));
            }
        }
        CHECKS.same("each team has a room", teams, (1 << 12) - 1);
        CHECKS.same("no judge has two", Integer.bitCount(judges), 6);
    }

    private static void checkSums(Debatetab tab) {
        int wins = 0;
        int proposed = 0;
        int speeches = 0;
        int met = 0;
        long points = 0;
        for (int team = 0; team < 12; team++) {
            wins += tab.wins(team);
            proposed += tab.proposed(team);
            points += tab.points(team);
            speeches += tab.speeches(team, 0) + tab.speeches(team, 1);
            for (int other = 0; other < team; other++) {
                met += tab.met(team, other);
            }
        }
        CHECKS.same("rooms in all", wins + 100 * proposed + 10000 * met, 363636);
        CHECKS.same("speeches in all", speeches, 144);
        CHECKS.same("points in all", tab.scores(), points);
        for (int rank = 0; rank < 24; rank++) {
            CHECKS.isTrue("24 speakers", tab.bestSpeaker(rank) >= 0);
        }
        CHECKS.fails("a 25th speaker", INDEX, () -> tab.bestSpeaker(24));
    }

    private static void roomNumbers() {
        CHECKS.same("the first bracket first, then by the lower place", roomsOf(sixthRound(), 5),
                "6-7:400 3-0:2 1-4:0 2-5:2 ");
        Debatetab tab = threeAndThree();
        tab.draw();
        CHECKS.same("rooms have numbers from 0 in each round", roomsOf(tab, 1), "4-0:0 1-2:0 3-5:0 ");
        Debatetab few = fourAfterOne();
        few.setPresent(0, false);
        few.setPresent(2, false);
        few.draw();
        CHECKS.same("absent teams have no room", roomsOf(few, 1), "3-1:0 ");
        CHECKS.same("the round before keeps its rooms", roomsOf(few, 0), "0-3:0 1-2:0 ");
    }

    private static void sides() {
        Debatetab tab = withJudges(2, 0, 1, 2, 3);
        tab.draw();
        tab.ballot(0, 70, 70, 80, 80);
        tab.ballot(1, 60, 60, 75, 75);
        CHECKS.same("3 stands before 2", bracketsOf(tab), "3 2 | 0 1 | ");
        tab.draw();
        CHECKS.same("the lower number, not the lower place", roomsOf(tab, 1), "2-3:0 0-1:0 ");
        Debatetab three = withJudges(1, 0, 1, 2);
        int[][] absent = {{2, 0}, {1, 2}, {0, 1}, {2, 0}, {1, 2}};
        for (int round = 0; round < 5; round++) {
            for (int team = 0; team < 3; team++) {
                three.setPresent(team, team != absent[round][0]);
            }
            three.draw();
            CHECKS.same("the proposition of round " + round, three.teamIn(round, 0, 'p'), absent[round][1]);
            winFor(three, absent[round][1], 0);
        }
        CHECKS.same("counted over all rounds", three.proposed(0) + 10 * three.proposed(1) + 100 * three.proposed(2),
                212);
    }

    /** Team 0 is the opposition of its room, and 1 the proposition. */
    private static void sidesAfterSwaps() {
        Debatetab tab = sixthRound();
        CHECKS.same("proposed before", tab.proposed(0) + 10 * tab.proposed(1), 11);
        CHECKS.same("swap(0, 1)", tab.swap(0, 1), 0);
        CHECKS.same("each takes the side of the other one", roomsOf(tab, 5), "6-7:400 3-1:1 0-4:1 2-5:2 ");
        CHECKS.same("proposed after", tab.proposed(0) + 10 * tab.proposed(1), 2);
        CHECKS.same("met", tab.met(3, 1) + tab.met(0, 4) + 10 * tab.met(3, 0) + 10 * tab.met(1, 4), 2);
        CHECKS.same("the ballot is that of the new sides", tab.ballot(2, 80, 80, 60, 60), 0);
        CHECKS.same("wins(0)", tab.wins(0), 1);
        CHECKS.same("points(4)", tab.points(4), 120);
    }

    /** A tournament of four teams of schools 0 to 3, with judges told by school and rank, drawn. */
    private static Debatetab judged(int... schoolsAndRanks) {
        Debatetab tab = withTeams(0, 1, 2, 3);
        for (int i = 0; i < schoolsAndRanks.length; i += 2) {
            tab.addJudge(schoolsAndRanks[i], schoolsAndRanks[i + 1]);
        }
        tab.draw();
        return tab;
    }

    /** The rooms are {0, 3} and {1, 2}. */
    private static void judgesByRank() {
        CHECKS.same("the greatest rank first", judgesOf(judged(5, 1, 5, 9, 5, 8), 0), "1 2 ");
        CHECKS.same("of several the lowest number", judgesOf(judged(5, 1, 5, 9, 5, 9), 0), "1 2 ");
        CHECKS.same("of several the lowest number, then the next", judgesOf(judged(5, 4, 5, 4, 5, 4), 0), "0 1 ");
        CHECKS.same("the second room's, too", judgesOf(judged(5, 9, 5, 1, 5, 2, 5, 2), 0), "0 2 ");
        CHECKS.same("the first room goes before the second one", judgesOf(judged(5, 9, 1, 8, 4, 1), 0), "0 2 ");
        CHECKS.same("two that may judge but one of both rooms", judgesOf(judged(3, 1, 0, 2, 4, 9, 1, 5), 0), "2 1 ");
        CHECKS.same("the first room gives way", judgesOf(judged(5, 9, 1, 8), 0), "1 0 ");
        CHECKS.same("the greatest rank may not judge the first room", judgesOf(judged(3, 9, 5, 1), 0), "1 0 ");
        Debatetab six = sixTeams();
        six.addJudge(5, 9);
        six.addJudge(5, 8);
        six.addJudge(5, 7);
        six.addConflict(1, 1);
        six.addConflict(1, 2);
        six.addConflict(2, 0);
        six.addConflict(2, 5);
        six.draw();
        CHECKS.same("three rooms, for which one way is left", judgesOf(six, 0), "1 2 0 ");
    }

    /** Judge 0 would have the room of a team, if it had not the team's school, or a conflict with the team. */
    private static void judgesOfBothTeams() {
        for (int team = 0; team < 4; team++) {
            boolean inFirst = team == 0 || team == 3;
            int rank = inFirst ? 9 : 1;
            String due = inFirst ? "1 0 " : "0 1 ";
            CHECKS.same("not of the school of team " + team, judgesOf(judged(team, rank, 4, 10 - rank), 0), due);
            Debatetab tab = withTeams(0, 1, 2, 3);
            tab.addJudge(5, rank);
            tab.addJudge(5, 10 - rank);
            tab.addConflict(0, team);
            tab.draw();
            CHECKS.same("not in conflict with team " + team, judgesOf(tab, 0), due);
        }
        judgesOfLaterRounds();
    }

    private static void judgesOfLaterRounds() {
        Debatetab later = fourAfterOne();
        later.addConflict(0, 0);
        later.addConflict(0, 3);
        CHECKS.same("a conflict that is told later changes no room", judgesOf(later, 0), "0 1 ");
        later.addJudge(5, 9);
        later.draw();
        CHECKS.same("but the rounds after it", judgesOf(later, 1), "2 1 ");
        CHECKS.same("a judge may have a room in each round", later.judgeIn(0, 1) - later.judgeIn(1, 1), 0);
    }

    /** A room without a ballot forbids a round, and a round is drawn as soon as what was missing is there. */
    private static void roundsBefore() {
        Debatetab tab = withJudges(1, 0, 1, 2);
        CHECKS.fails("three teams", STATE, tab::draw);
        tab.setPresent(1, false);
        CHECKS.same("draw() of two", tab.draw(), 0);
        CHECKS.same("its room", roomsOf(tab, 0), "0-2:0 ");
        tab.setPresent(0, false);
        tab.setPresent(2, false);
        CHECKS.same("an absent team has its room and its ballot", tab.ballot(0, 70, 71, 70, 70), 0);
        CHECKS.fails("none is present", STATE, tab::draw);
        tab.setPresent(1, true);
        CHECKS.fails("one is present", STATE, tab::draw);
        tab.setPresent(2, true);
        CHECKS.same("draw() of two again", tab.draw(), 1);
        CHECKS.same("the room of round 1", roomsOf(tab, 1), "1-2:0 ");
        CHECKS.same("rounds()", tab.rounds(), 2);
    }

    /** A round of three rooms, for which there are too few judges, leaves nothing to one of two rooms. */
    private static void roundsAfterRefusedOnes() {
        Debatetab tab = withJudges(2, 0, 0, 0, 0, 0, 0);
        CHECKS.fails("three rooms", UNSUPPORTED, tab::draw);
        CHECKS.fails("no round to enter a ballot of", STATE, () -> tab.ballot(0, 70, 70, 70, 71));
        CHECKS.fails("no round to swap in", STATE, () -> tab.swap(0, 1));
        tab.setPresent(4, false);
        tab.setPresent(5, false);
        CHECKS.same("draw() of two rooms", tab.draw(), 0);
        CHECKS.same("the rooms", roomsOf(tab, 0), "0-3:30 1-2:30 ");
        CHECKS.same("meanPenalty()", tab.meanPenalty(), 30.0);
        CHECKS.same("missing()", tab.missing(), 2);
        CHECKS.fails("a team that would have had a room", ELEMENT, () -> tab.swap(0, 5));
        CHECKS.fails("the third room", ELEMENT, () -> tab.ballot(2, 70, 70, 70, 71));
        winFor(tab, 0, 0);
        winFor(tab, 1, 1);
        CHECKS.fails("no next room", ELEMENT, tab::nextRoom);
        CHECKS.same("met(2, 3), met(0, 5)", tab.met(2, 3) + tab.met(0, 5), 0);
        CHECKS.same("the next round, of the same judges", tab.draw(), 1);
    }

    private static void scoresAtTheirBounds() {
        for (int score : new int[] {60, 80}) {
            for (int speech = 0; speech < 4; speech++) {
                Debatetab tab = withJudges(1, 0, 1);
                tab.draw();
                int[] scores = {70, 70, 70, 70};
                scores[speech] = score;
                int winner = (score == 80) == (speech < 2) ? 0 : 1;
                CHECKS.same("score " + score + " of speech " + speech,
                        tab.ballot(0, scores[0], scores[1], scores[2], scores[3]), winner);
                CHECKS.same("scores()", tab.scores(), 210L + score);
                CHECKS.same("points", tab.points(speech / 2), 70 + score);
            }
        }
        Debatetab most = withJudges(1, 0, 1);
        most.draw();
        CHECKS.same("the most and the least", most.ballot(0, 80, 80, 60, 60), 0);
    }

    private static void sumsThatDifferByOne() {
        int[][] ballots = {{71, 70, 70, 70}, {70, 71, 70, 70}, {70, 70, 71, 70}, {70, 70, 70, 71}, {80, 60, 70, 69},
            {60, 79, 80, 60}};
        int[] winners = {0, 0, 1, 1, 0, 1};
        for (int i = 0; i < ballots.length; i++) {
            Debatetab tab = withJudges(1, 0, 1);
            tab.draw();
            int[] scores = ballots[i];
            CHECKS.same("the winner", tab.ballot(0, scores[0], scores[1], scores[2], scores[3]), winners[i]);
            CHECKS.same("its side", tab.winner(0, 0), winners[i] == 0 ? 'p' : 'o');
            CHECKS.same("its wins", tab.wins(winners[i]) - tab.wins(1 - winners[i]), 1);
        }
    }

    private static void speakersOfSpeeches() {
        Debatetab tab = withJudges(1, 0, 1);
        tab.draw();
        tab.ballot(0, 61, 62, 73, 74);
        CHECKS.same("the first speech of the proposition", tab.average(0, 0), 61.0f);
        CHECKS.same("the second one", tab.average(0, 1), 62.0f);
        CHECKS.same("the first speech of the opposition", tab.average(1, 0), 73.0f);
        CHECKS.same("the second one of it", tab.average(1, 1), 74.0f);
        tab.draw();
        tab.ballot(0, 63, 64, 75, 77);
        CHECKS.same("now 1 is the proposition", tab.averageTenths(1, 0) + 10000 * tab.averageTenths(1, 1), 6900680);
        CHECKS.same("and 0 the opposition", tab.averageTenths(0, 0) + 10000 * tab.averageTenths(0, 1), 6950680);
        CHECKS.same("a speech each", tab.speeches(0, 0) + tab.speeches(0, 1) + tab.speeches(1, 0)
                + tab.speeches(1, 1), 8);
    }

    private static void ironSpeakers() {
        for (int speaker = 0; speaker < 2; speaker++) {
            Debatetab tab = withJudges(1, 0, 1);
            tab.draw();
            CHECKS.same("told after the draw", tab.setIron(1, speaker), -1);
            tab.ballot(0, 61, 62, 73, 76);
            CHECKS.same("both speeches", tab.speeches(1, speaker), 2);
            CHECKS.same("none", tab.speeches(1, 1 - speaker), 0);
            CHECKS.same("their average", tab.average(1, speaker), 74.5f);
            CHECKS.same("the other team has none", tab.speeches(0, 0) + 10 * tab.speeches(0, 1), 11);
            CHECKS.same("the points of the team", tab.points(1), 149);
            CHECKS.same("the one before", tab.setIron(1, -1), speaker);
            CHECKS.same("what has been entered stays", tab.speeches(1, speaker), 2);
            CHECKS.same("none before", tab.setIron(1, -1), -1);
            tab.draw();
            tab.ballot(0, 60, 60, 73, 76);
            CHECKS.same("each holds one again", tab.speeches(1, speaker) + 10 * tab.speeches(1, 1 - speaker), 13);
            CHECKS.same("told after the ballot", tab.setIron(0, speaker), -1);
            CHECKS.same("it does not count for it", tab.speeches(0, 0) + 10 * tab.speeches(0, 1), 22);
        }
        Debatetab both = withJudges(1, 0, 1);
        both.setIron(0, 0);
        both.setIron(1, 1);
        both.draw();
        both.ballot(0, 61, 62, 73, 76);
        CHECKS.same("iron speakers of both", both.speeches(0, 0) + 10 * both.speeches(1, 1), 22);
    }

    private static void swapsInASecondBracket() {
        Debatetab tab = sixthRound();
        CHECKS.same("swap(4, 3)", tab.swap(4, 3), 0);
        CHECKS.same("the rooms", roomsOf(tab, 5), "6-7:400 4-0:1 1-3:1 2-5:2 ");
        CHECKS.same("the judges stay", judgesOf(tab, 5), "0 1 2 3 ");
        CHECKS.same("swap(3, 4)", tab.swap(3, 4), 0);
        CHECKS.same("the rooms again", roomsOf(tab, 5), "6-7:400 3-0:2 1-4:0 2-5:2 ");
        tab.ballot(0, 70, 70, 70, 71);
        tab.ballot(3, 70, 70, 70, 71);
        CHECKS.same("ballots of other rooms", tab.swap(0, 1), 0);
        CHECKS.same("the rooms after it", roomsOf(tab, 5), "6-7:400 3-1:1 0-4:1 2-5:2 ");
    }

    /** The places of the first bracket are 0, 1, 2 and 5, of which 0 and 5 have met in the round before. */
    private static void swapsAndRoundsBefore() {
        Debatetab tab = withJudges(3, 0, 1, 2, 3, 4, 3);
        tab.draw();
        tab.ballot(0, 75, 75, 74, 74);
        tab.ballot(1, 74, 74, 60, 60);
        tab.ballot(2, 73, 73, 61, 61);
        CHECKS.same("the brackets", bracketsOf(tab), "0 1 2 5 | 3 4 | ");
        tab.draw();
        CHECKS.same("the rooms", roomsOf(tab, 1), "0-2:1 5-1:1 3-4:0 ");
        CHECKS.fails("0 and 5 would meet again", UNSUPPORTED, () -> tab.swap(0, 1));
        CHECKS.fails("the same by the others", UNSUPPORTED, () -> tab.swap(5, 2));
        CHECKS.same("the rooms stay", roomsOf(tab, 1), "0-2:1 5-1:1 3-4:0 ");
    }

    /** Rooms {0, 3}, {1, 4}, {2, 5} and {0, 4}, {1, 3}, {2, 5}: each swap leads from one to the other. */
    private static void swapsOnAndOn() {
        Debatetab tab = sixDrawn();
        tab.swap(3, 4);
        CHECKS.same("3 and 4", roomsOf(tab, 0), "0-4:1 1-3:1 2-5:2 ");
        tab.swap(0, 1);
        CHECKS.same("then 0 and 1", roomsOf(tab, 0), "1-4:0 0-3:2 2-5:2 ");
        tab.swap(4, 3);
        CHECKS.same("then 4 and 3", roomsOf(tab, 0), "1-3:1 0-4:1 2-5:2 ");
        CHECKS.same("the places have stayed", tab.swap(1, 0), 0);
        CHECKS.same("then 1 and 0", roomsOf(tab, 0), "0-3:2 1-4:0 2-5:2 ");
        CHECKS.same("met", tab.met(0, 3) + tab.met(1, 4) + tab.met(2, 5), 3);
        CHECKS.same("not met", tab.met(0, 4) + tab.met(1, 3), 0);
        CHECKS.same("proposed", tab.proposed(0) + tab.proposed(1) + tab.proposed(2), 3);
        CHECKS.same("meanPenalty()", tab.meanPenalty(), 4.0 / 3.0);
    }

    private static void swapsOfAbsentTeams() {
        Debatetab tab = sixDrawn();
        for (int team = 0; team < 6; team++) {
            tab.setPresent(team, false);
        }
        CHECKS.same("absence counts for rounds drawn from then on", tab.swap(3, 4), 0);
        CHECKS.same("brackets()", tab.brackets(), 0);
        CHECKS.same("missing()", tab.missing(), 3);
        CHECKS.same("ballot", tab.ballot(0, 60, 60, 70, 70), 4);
        CHECKS.same("an absent team stands first", tab.standing(0), 4);
    }

    /** The penalty of a room is told as it was when the round was drawn, or a swap changed the room. */
    private static void penaltiesStay() {
        Debatetab tab = withJudges(1, 0, 0);
        for (int round = 0; round < 3; round++) {
            tab.draw();
            winFor(tab, 0, 0);
        }
        CHECKS.same("by round", tab.penaltyOf(0, 0) + tab.penaltyOf(1, 0) + tab.penaltyOf(2, 0), 30 + 130 + 230);
        CHECKS.same("of the first round", tab.penaltyOf(0, 0), 30);
        Debatetab two = fourAfterOne();
        two.setPresent(1, false);
        two.setPresent(2, false);
        two.draw();
        CHECKS.same("the room before, and the same now", two.penaltyOf(0, 0) + two.penaltyOf(1, 0), 100);
    }

    private static void firstRoomWithoutBallot() {
        Debatetab tab = sixDrawn();
        tab.ballot(0, 70, 70, 70, 71);
        CHECKS.same("the second room", tab.nextRoom(), 1);
        tab.ballot(2, 70, 70, 70, 71);
        CHECKS.same("still the second room", tab.nextRoom(), 1);
        CHECKS.same("missing()", tab.missing(), 1);
        CHECKS.same("winners", "" + tab.winner(0, 0) + tab.winner(0, 1) + tab.winner(0, 2), "o-o");
        tab.ballot(1, 71, 70, 70, 70);
        CHECKS.same("missing() none", tab.missing(), 0);
        tab.draw();
        CHECKS.same("the first room of the next round", tab.nextRoom(), 0);
        CHECKS.same("missing() in the next round", tab.missing(), 3);
        CHECKS.same("the winner of the round before", tab.winner(0, 1), 'p');
    }

    /** Averages that are no whole numbers, and those at the bounds. */
    private static void averages() {
        Debatetab tab = withJudges(1, 0, 1);
        tab.draw();
        tab.ballot(0, 60, 61, 80, 79);
        CHECKS.same("the least", tab.averageBits(0, 0), 0x42700000);
        CHECKS.same("the greatest", tab.averageBits(1, 0), 0x42a00000);
        CHECKS.same("tenths of the least", tab.averageTenths(0, 0), 600);
        CHECKS.same("tenths of the greatest", tab.averageTenths(1, 0), 800);
        tab.draw();
        tab.ballot(0, 80, 79, 61, 61);
        tab.draw();
        tab.ballot(0, 60, 60, 80, 79);
        CHECKS.same("181 / 3", tab.average(0, 0), 181.0f / 3.0f);
        CHECKS.same("the bits of 181 / 3", tab.averageBits(0, 0), Float.floatToIntBits(181.0f / 3.0f));
        CHECKS.same("the tenths of 181 / 3", tab.averageTenths(0, 0), 603);
        CHECKS.same("182 / 3", tab.average(0, 1), 182.0f / 3.0f);
        CHECKS.same("the bits of 182 / 3", tab.averageBits(0, 1), Float.floatToIntBits(182.0f / 3.0f));
        CHECKS.same("the tenths of 182 / 3 are not rounded up", tab.averageTenths(0, 1), 606);
    }

    /** All averages that there can be, of 1 to 12 speeches: as the document tells them, in float. */
    private static void everyAverage() {
        for (int count = 1; count <= 12; count++) {
            for (int sum = 60 * count; sum <= 80 * count; sum++) {
                Debatetab tab = withSpeeches(count, sum);
                float due = (float) sum / (float) count;
                CHECKS.same("speeches", tab.speeches(0, 0), count);
                CHECKS.same("average " + sum + " / " + count, tab.average(0, 0), due);
                CHECKS.same("averageBits " + sum + " / " + count, tab.averageBits(0, 0), Float.floatToIntBits(due));
                CHECKS.same("averageTenths " + sum + " / " + count, tab.averageTenths(0, 0), (int) (due * 10.0f));
            }
        }
    }

    /** A tournament in which the first speaker of team 0, mostly as an iron one, has held speeches of such a sum. */
    private static Debatetab withSpeeches(int count, int sum) {
        Debatetab tab = withJudges(1, 0, 1);
        for (int held = 0; held < count; held += 2) {
            tab.setIron(0, count - held == 1 ? -1 : 0);
            tab.draw();
            int first = sum / count + (held < sum % count ? 1 : 0);
            int second = sum / count + (held + 1 < sum % count ? 1 : 0);
            int theirs = first + second == 160 ? 60 : 80;
            boolean proposes = tab.teamIn(tab.rounds() - 1, 0, 'p') == 0;
            tab.ballot(0, proposes ? first : theirs, proposes ? second : theirs, proposes ? theirs : first,
                    proposes ? theirs : second);
        }
        return tab;
    }

    private static void bestSpeakers() {
        Debatetab tab = withJudges(1, 0, 1, 2);
        tab.setPresent(2, false);
        tab.draw();
        tab.ballot(0, 70, 60, 70, 61);
        CHECKS.same("of equal averages and speeches the lower number", firstSpeakers(tab, 4), "0 2 3 1 ");
        tab.setIron(1, 0);
        tab.draw();
        tab.ballot(0, 70, 70, 70, 71);
        CHECKS.same("of equal averages the one with more speeches", firstSpeakers(tab, 4), "2 0 1 3 ");
        CHECKS.fails("a 5th speaker", INDEX, () -> tab.bestSpeaker(4));
        speakersByPartsOfAPoint();
    }

    /** 141 / 2 goes before 211 / 3, though there are more speeches of the latter. */
    private static void speakersByPartsOfAPoint() {
        Debatetab tab = withJudges(1, 0, 1, 2);
        tab.setPresent(2, false);
        tab.draw();
        tab.ballot(0, 70, 60, 70, 61);
        tab.draw();
        tab.ballot(0, 70, 60, 71, 60);
        tab.setPresent(0, false);
        tab.setPresent(2, true);
        tab.draw();
        tab.ballot(0, 61, 60, 71, 60);
        CHECKS.same("speeches", tab.speeches(0, 0) + 10 * tab.speeches(1, 0) + 100 * tab.speeches(2, 0), 132);
        CHECKS.same("the averages", "" + tab.average(0, 0) + " " + tab.average(1, 0), 70.5f + " " + 211.0f / 3.0f);
        CHECKS.same("by average, then by speeches", firstSpeakers(tab, 6), "0 2 4 3 1 5 ");
    }

    private static void breaksBySchool() {
        Debatetab all = full();
        for (int size = 2; size <= 8; size *= 2) {
            for (int seed = 0; seed < size; seed++) {
                CHECKS.same("breaks(" + seed + ", " + size + ")", all.breaks(seed, size), seed);
                all.setPresent(seed, false);
                CHECKS.same("the same, absent", all.breaks(seed, size), seed);
            }
        }
        Debatetab tab = withJudges(2, 0, 0, 0, 1);
        tab.draw();
        CHECKS.same("rooms", roomsOf(tab, 0), "0-3:0 1-2:30 ");
        tab.ballot(0, 70, 70, 75, 75);
        tab.ballot(1, 60, 60, 80, 80);
        int[] due = {2, 3, 0};
        for (int seed = 0; seed < 3; seed++) {
            CHECKS.same("the two of a school that stand first", tab.breaks(seed, 4), due[seed]);
            CHECKS.same("the same of 8", tab.breaks(seed, 8), due[seed]);
        }
        CHECKS.fails("a third one of the school", INDEX, () -> tab.breaks(3, 4));
        CHECKS.same("breaks(1, 2)", tab.breaks(1, 2), 3);
        tab.addTeam(4);
        CHECKS.same("the one that stands behind the third one", tab.breaks(3, 4), 4);
    }

    private static void means() {
        CHECKS.same("over rounds of one room and of four", sixthRound().meanPenalty(), 1004.0 / 9.0);
        Debatetab tab = twoAfterOne();
        tab.draw();
        tab.ballot(0, 70, 70, 70, 71);
        tab.draw();
        CHECKS.same("a whole number", tab.meanPenalty(), 100.0);
        CHECKS.same("the scores of all ballots", tab.scores(), 562L);
        CHECKS.same("their parts", tab.points(0) + tab.points(1), 562);
    }
}
