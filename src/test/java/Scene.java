import java.util.NoSuchElementException;

/** What the tests share: the classes of exceptions, the utmost numbers, and tournaments in a known state. */
abstract class Scene {
    static final Class<IllegalArgumentException> ARGUMENT = IllegalArgumentException.class;
    static final Class<IllegalStateException> STATE = IllegalStateException.class;
    static final Class<IndexOutOfBoundsException> INDEX = IndexOutOfBoundsException.class;
    static final Class<NoSuchElementException> ELEMENT = NoSuchElementException.class;
    static final Class<ArithmeticException> ARITHMETIC = ArithmeticException.class;
    static final Class<UnsupportedOperationException> UNSUPPORTED = UnsupportedOperationException.class;
    static final int LEAST = Integer.MIN_VALUE;
    static final int MOST = Integer.MAX_VALUE;

    /** A tournament with teams of these schools. */
    static Debatetab withTeams(int... schools) {
        Debatetab tab = new Debatetab();
        for (int school : schools) {
            tab.addTeam(school);
        }
        return tab;
    }

    /** The same with as many judges of school 5, all of rank 5. */
    static Debatetab withJudges(int judges, int... schools) {
        Debatetab tab = withTeams(schools);
        for (int i = 0; i < judges; i++) {
            tab.addJudge(5, 5);
        }
        return tab;
    }

    /** Two teams that have met once: team 0, the proposition, has 140 points and team 1 has 141. */
    static Debatetab twoAfterOne() {
        Debatetab tab = withJudges(1, 0, 1);
        tab.draw();
        tab.ballot(0, 70, 70, 70, 71);
        return tab;
    }

    /** Four teams of four schools after the round {0, 3}, {1, 2}, which 3 and 2 have won: 150 and 160 points. */
    static Debatetab fourAfterOne() {
        Debatetab tab = withJudges(2, 0, 1, 2, 3);
        tab.draw();
        tab.ballot(0, 70, 70, 75, 75);
        tab.ballot(1, 60, 61, 80, 80);
        return tab;
    }

    /** Six teams whose best pairing is {0, 3}, {1, 4}, {2, 5}, as 0, 1 and 5 are of the same school. */
    static Debatetab sixTeams() {
        return withTeams(0, 0, 1, 2, 3, 0);
    }

    static Debatetab sixDrawn() {
        Debatetab tab = sixTeams();
        tab.addJudge(5, 9);
        tab.addJudge(5, 8);
        tab.addJudge(5, 7);
        tab.draw();
        return tab;
    }

    /** As many teams and judges as there can be: each school has two teams, and all judges are of rank 1. */
    static Debatetab full() {
        Debatetab tab = new Debatetab();
        for (int i = 0; i < 12; i++) {
            tab.addTeam(i / 2);
        }
        for (int i = 0; i < 8; i++) {
            tab.addJudge(i % 6, 1);
        }
        return tab;
    }

    /** Two teams after the six rounds that there can be, all of which team 1 has won. */
    static Debatetab sixRounds() {
        Debatetab tab = withJudges(1, 0, 1);
        for (int round = 0; round < 6; round++) {
            tab.draw();
            winFor(tab, 1, 0);
        }
        return tab;
    }

    /**
     * The six teams again and 6 and 7, in the sixth round: 6 has beaten 0 once and 7 four times, so the rooms are
     * {6, 7} of the first bracket with penalty 400, and {3, 0}, {1, 4}, {2, 5} of the second one.
     */
    static Debatetab sixthRound() {
        Debatetab tab = sixTeams();
        tab.addTeam(1);
        tab.addTeam(2);
        for (int i = 0; i < 4; i++) {
            tab.addJudge(5, 9 - i);
        }
        for (int team = 1; team < 6; team++) {
            tab.setPresent(team, false);
        }
        tab.setPresent(7, false);
        tab.draw();
        winFor(tab, 6, 0);
        tab.setPresent(0, false);
        tab.setPresent(7, true);
        for (int round = 1; round < 5; round++) {
            tab.draw();
            winFor(tab, 6, 0);
        }
        for (int team = 0; team < 6; team++) {
            tab.setPresent(team, true);
        }
        tab.draw();
        return tab;
    }

    /** Lets a team win its room of the round that was drawn last, by 150 to 140 points. */
    static void winFor(Debatetab tab, int team, int room) {
        boolean proposes = tab.teamIn(tab.rounds() - 1, room, 'p') == team;
        tab.ballot(room, proposes ? 75 : 70, proposes ? 75 : 70, proposes ? 70 : 75, proposes ? 70 : 75);
    }

    /** The teams in the order in which they stand. */
    static String standings(Debatetab tab) {
        StringBuilder order = new StringBuilder();
        for (int rank = 0; rank < tab.teams(); rank++) {
            order.append(tab.standing(rank)).append(' ');
        }
        return order.toString();
    }

    /** The rooms of a round: the proposition, the opposition, and the penalty. */
    static String roomsOf(Debatetab tab, int round) {
        StringBuilder text = new StringBuilder();
        for (int room = 0; room < tab.rooms(round); room++) {
            text.append(tab.teamIn(round, room, 'p')).append('-').append(tab.teamIn(round, room, 'o'))
                    .append(':').append(tab.penaltyOf(round, room)).append(' ');
        }
        return text.toString();
    }

    static String judgesOf(Debatetab tab, int round) {
        StringBuilder text = new StringBuilder();
        for (int room = 0; room < tab.rooms(round); room++) {
            text.append(tab.judgeIn(round, room)).append(' ');
        }
        return text.toString();
    }

    /** The brackets that a round would have now, each as its teams. */
    static String bracketsOf(Debatetab tab) {
        StringBuilder text = new StringBuilder();
        for (int bracket = 0; bracket < tab.brackets(); bracket++) {
            for (int place = 0; place < tab.bracketSize(bracket); place++) {
                text.append(tab.bracketAt(bracket, place)).append(' ');
            }
            text.append("| ");
        }
        return text.toString();
    }

    /** The places of the opponents in the best pairing of a bracket. */
    static String opponentsIn(Debatetab tab, int bracket) {
        StringBuilder text = new StringBuilder();
        for (int place = 0; place < tab.bracketSize(bracket); place++) {
            text.append(tab.opponent(bracket, place)).append(' ');
        }
        return text.toString();
    }

    /** The speakers by their averages, as many as a count. */
    static String firstSpeakers(Debatetab tab, int count) {
        StringBuilder text = new StringBuilder();
        for (int rank = 0; rank < count; rank++) {
            text.append(tab.bestSpeaker(rank)).append(' ');
        }
        return text.toString();
    }
}
