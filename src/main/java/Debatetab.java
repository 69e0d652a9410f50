import java.util.Arrays;
import java.util.NoSuchElementException;

/** A tabulator of a debating tournament. The numbers of promises are those of ../shared/DOC.md. */
public final class Debatetab {
    private static final int MOST_TEAMS = 12;
    private static final int MOST_JUDGES = 8;
    private static final int MOST_ROUNDS = 6;
    private static final int MOST_ROOMS = 6;
    private static final int MOST_TRIED = 8;
    private static final int SCHOOLS = 6;
    private static final int SPEAKERS = 2;
    private static final int LOWEST_RANK = 1;
    private static final int HIGHEST_RANK = 9;
    private static final int LOWEST_SCORE = 60;
    private static final int HIGHEST_SCORE = 80;
    private static final int MEETING_PENALTY = 100;
    private static final int SCHOOL_PENALTY = 30;
    private static final int BREAKS_PER_SCHOOL = 2;
    private static final int NONE = -1;

    private final Roster roster;
    private final Tally tally;
    private final History history;
    private final Ranking ranking;
    private final Brackets brackets;
    private final Pairing pairing;
    private final Panel panel;

    /** Promise 1. */
    public Debatetab() {
        roster = new Roster();
        tally = new Tally();
        history = new History(roster);
        ranking = new Ranking(roster, tally, history);
        brackets = new Brackets(roster, tally, ranking);
        pairing = new Pairing();
        panel = new Panel(roster);
    }

    /** Promise 2. */
    public int addTeam(int school) throws IllegalArgumentException, IllegalStateException {
        if (!isSchool(school)) {
            throw new IllegalArgumentException("the school is out of range");
        }
        if (roster.teamCount >= MOST_TEAMS) {
            throw new IllegalStateException("there are 12 teams");
        }
        return roster.enterTeam(school);
    }

    /** Promise 3. */
    public int addJudge(int school, int rank) throws IllegalArgumentException, IllegalStateException {
        if (!isSchool(school) || rank < LOWEST_RANK || rank > HIGHEST_RANK) {
            throw new IllegalArgumentException("the school or the rank is out of range");
        }
        if (roster.judgeCount >= MOST_JUDGES) {
            throw new IllegalStateException("there are 8 judges");
        }
        return roster.enterJudge(school, rank);
    }

    /** Promise 4. */
    public int addConflict(int judge, int team) throws NoSuchElementException, IllegalStateException {
        needJudge(judge);
        needTeam(team);
        if (roster.isInConflict(judge, team)) {
            throw new IllegalStateException("the conflict has been told");
        }
        roster.enterConflict(judge, team);
        return roster.conflictCount(judge);
    }

    /** Promise 5. */
    public boolean setPresent(int team, boolean isPresent) throws NoSuchElementException {
        needTeam(team);
        boolean before = roster.present[team];
        roster.present[team] = isPresent;
        return before;
    }

    /** Promise 6. */
    public int setIron(int team, int speaker) throws NoSuchElementException, IllegalArgumentException {
        needTeam(team);
        if (speaker != NONE) {
            needSpeaker(speaker);
        }
        int before = roster.irons[team];
        roster.irons[team] = speaker;
        return before;
    }

    /** Promise 7. */
    public int draw() throws IllegalStateException, UnsupportedOperationException {
        if (history.count >= MOST_ROUNDS) {
            throw new IllegalStateException("there are 6 rounds");
        }
        if (history.count > 0 && history.last().openRooms() > 0) {
            throw new IllegalStateException("a room has no ballot");
        }
        int presentTeams = roster.presentTeams();
        if (presentTeams == 0 || presentTeams % 2 != 0) {
            throw new IllegalStateException("the number of present teams is odd or 0");
        }
        // The row counts only when the judges fit too; until then it is a sheet to try on.
        Round round = history.spare();
        brackets.form();
        fillRooms(round);
        if (!panel.seat(round)) {
            throw new UnsupportedOperationException("the judges do not fit");
        }
        history.count++;
        return history.count - 1;
    }

    /** Promise 8. */
    public int ballot(int room, int first, int second, int third, int fourth)
            throws IllegalStateException, NoSuchElementException, IllegalArgumentException,
            UnsupportedOperationException {
        needAnyRound();
        needRoom(history.count - 1, room);
        if (!isScore(first) || !isScore(second) || !isScore(third) || !isScore(fourth)) {
            throw new IllegalArgumentException("a score is out of range");
        }
        if (first + second == third + fourth) {
            throw new IllegalArgumentException("both sums are equal");
        }
        Round round = history.last();
        if (round.winners[room] != '-') {
            throw new UnsupportedOperationException("the room has a ballot");
        }
        int proposition = round.propositions[room];
        int opposition = round.oppositions[room];
        tally.enterSpeeches(proposition, roster.irons[proposition], first, second);
        tally.enterSpeeches(opposition, roster.irons[opposition], third, fourth);
        boolean proposed = first + second > third + fourth;
        round.winners[room] = proposed ? 'p' : 'o';
        int best = proposed ? proposition : opposition;
        tally.wins[best]++;
        return best;
    }

    /** Promise 9. */
    public int swap(int one, int other)
            throws IllegalStateException, NoSuchElementException, UnsupportedOperationException {
        needAnyRound();
        needTeam(one);
        needTeam(other);
        Round round = history.last();
        int oneRoom = round.roomOf(one);
        int otherRoom = round.roomOf(other);
        if (oneRoom == NONE || otherRoom == NONE) {
            throw new NoSuchElementException("a team has no room in this round");
        }
        int oneRival = round.rivalIn(oneRoom, one);
        int otherRival = round.rivalIn(otherRoom, other);
        if (!round.mayTrade(oneRoom, otherRoom)
                || !roster.mayJudgeBoth(round.judges[oneRoom], other, oneRival)
                || !roster.mayJudgeBoth(round.judges[otherRoom], one, otherRival)) {
            throw new UnsupportedOperationException("the teams cannot be swapped");
        }
        int before = round.penalties[oneRoom] + round.penalties[otherRoom];
        int onePenalty = penaltyInRound(round, oneRoom, other, oneRival);
        int otherPenalty = penaltyInRound(round, otherRoom, one, otherRival);
        if (onePenalty + otherPenalty > before) {
            throw new UnsupportedOperationException("the penalties would be greater");
        }
        round.replace(oneRoom, one, other, onePenalty);
        round.replace(otherRoom, other, one, otherPenalty);
        return before - onePenalty - otherPenalty;
    }

    /** Promise 10. */
    public int teams() {
        return roster.teamCount;
    }

    /** Promise 11. */
    public int judges() {
        return roster.judgeCount;
    }

    /** Promise 12. */
    public int rounds() {
        return history.count;
    }

    /** Promise 13. */
    public int schoolOf(int team) throws NoSuchElementException {
        needTeam(team);
        return roster.schools[team];
    }

    /** Promise 14. */
    public boolean isPresent(int team) throws NoSuchElementException {
        needTeam(team);
        return roster.present[team];
    }

    /** Promise 15. */
    public boolean mayJudge(int judge, int team) throws NoSuchElementException {
        needJudge(judge);
        needTeam(team);
        return roster.isAllowed(judge, team);
    }

    /** Promise 16. */
    public int conflicts(int judge) throws NoSuchElementException {
        needJudge(judge);
        return roster.conflictCount(judge);
    }

    /** Promise 17. */
    public int wins(int team) throws NoSuchElementException {
        needTeam(team);
        return tally.wins[team];
    }

    /** Promise 18. */
    public int points(int team) throws NoSuchElementException {
        needTeam(team);
        return tally.points[team];
    }

    /** Promise 19. */
    public int strength(int team) throws NoSuchElementException {
        needTeam(team);
        return history.strengthOf(team, tally);
    }

    /** Promise 20. */
    public int standing(int rank) throws IndexOutOfBoundsException {
        if (rank < 0 || rank >= roster.teamCount) {
            throw new IndexOutOfBoundsException("there is no such rank");
        }
        ranking.sort();
        return ranking.order[rank];
    }

    /** Promise 21. */
    public int met(int one, int other) throws NoSuchElementException, IllegalArgumentException {
        needTeam(one);
        needTeam(other);
        if (one == other) {
            throw new IllegalArgumentException("both teams are the same");
        }
        return history.meetings(one, other, history.count);
    }

    /** Promise 22. */
    public int proposed(int team) throws NoSuchElementException {
        needTeam(team);
        return history.propositionsOf(team);
    }

    /** Promise 23. */
    public int brackets() {
        brackets.form();
        return brackets.count;
    }

    /** Promise 24. */
    public int bracketSize(int bracket) throws IndexOutOfBoundsException {
        formAndNeedBracket(bracket);
        return brackets.sizeOf(bracket);
    }

    /** Promise 25. */
    public int bracketAt(int bracket, int place) throws IndexOutOfBoundsException {
        formAndNeedBracket(bracket);
        needPlace(bracket, place);
        return brackets.teamAt(bracket, place);
    }

    /** Promise 26. */
    public int leastPenalty(int bracket) throws IndexOutOfBoundsException, IllegalStateException {
        formAndNeedBracket(bracket);
        needEvenBracket(bracket);
        preparePairing(bracket);
        pairing.findBest();
        return pairing.least;
    }

    /** Promise 27. */
    public int leastByTrying(int bracket)
            throws IndexOutOfBoundsException, IllegalStateException, UnsupportedOperationException {
        formAndNeedBracket(bracket);
        needEvenBracket(bracket);
        if (brackets.sizeOf(bracket) > MOST_TRIED) {
            throw new UnsupportedOperationException("the bracket has more than 8 teams");
        }
        preparePairing(bracket);
        return pairing.leastOfAll();
    }

    /** Promise 28. */
    public int opponent(int bracket, int place) throws IndexOutOfBoundsException, IllegalStateException {
        formAndNeedBracket(bracket);
        needPlace(bracket, place);
        needEvenBracket(bracket);
        preparePairing(bracket);
        pairing.findBest();
        return pairing.best[place];
    }

    /** Promise 29. */
    public int rooms(int round) throws NoSuchElementException {
        needRound(round);
        return history.at(round).size;
    }

    /** Promise 30. */
    public int teamIn(int round, int room, char side) throws NoSuchElementException, IllegalArgumentException {
        needRound(round);
        needRoom(round, room);
        if (side != 'p' && side != 'o') {
            throw new IllegalArgumentException("there is no such side");
        }
        Round row = history.at(round);
        return side == 'p' ? row.propositions[room] : row.oppositions[room];
    }

    /** Promise 31. */
    public int judgeIn(int round, int room) throws NoSuchElementException {
        needRound(round);
        needRoom(round, room);
        return history.at(round).judges[room];
    }

    /** Promise 32. */
    public int penaltyOf(int round, int room) throws NoSuchElementException {
        needRound(round);
        needRoom(round, room);
        return history.at(round).penalties[room];
    }

    /** Promise 33. */
    public char winner(int round, int room) throws NoSuchElementException {
        needRound(round);
        needRoom(round, room);
        return history.at(round).winners[room];
    }

    /** Promise 34. */
    public int missing() throws IllegalStateException {
        needAnyRound();
        return history.last().openRooms();
    }

    /** Promise 35. */
    public int nextRoom() throws IllegalStateException, NoSuchElementException {
        needAnyRound();
        int room = history.last().firstOpenRoom();
        if (room == NONE) {
            throw new NoSuchElementException("all rooms have a ballot");
        }
        return room;
    }

    /** Promise 36. */
    public int speeches(int team, int speaker) throws NoSuchElementException, IllegalArgumentException {
        needTeam(team);
        needSpeaker(speaker);
        return tally.speechCounts[resultOf(team, speaker)];
    }

    /** Promise 37. */
    public float average(int team, int speaker)
            throws NoSuchElementException, IllegalArgumentException, ArithmeticException {
        return checkedMean(team, speaker);
    }

    /** Promise 38. */
    public int averageBits(int team, int speaker)
            throws NoSuchElementException, IllegalArgumentException, ArithmeticException {
        return bitsOf(checkedMean(team, speaker));
    }

    /** Promise 39. */
    public int averageTenths(int team, int speaker)
            throws NoSuchElementException, IllegalArgumentException, ArithmeticException {
        return (int) (checkedMean(team, speaker) * 10.0f);
    }

    /** Promise 40. */
    public int bestSpeaker(int rank) throws IndexOutOfBoundsException {
        int result = tally.speakerAt(rank);
        if (result == NONE) {
            throw new IndexOutOfBoundsException("there is no such rank");
        }
        return result;
    }

    /** Promise 41. */
    public int breaks(int seed, int size) throws IllegalArgumentException, IndexOutOfBoundsException {
        if (size != 2 && size != 4 && size != 8) {
            throw new IllegalArgumentException("the size is neither 2 nor 4 nor 8");
        }
        if (seed < 0 || seed >= size) {
            throw new IndexOutOfBoundsException("there is no such seed");
        }
        ranking.sort();
        int team = ranking.breakingTeam(seed);
        if (team == NONE) {
            throw new IndexOutOfBoundsException("fewer teams break");
        }
        return team;
    }

    /** Promise 42. */
    public int people(char kind) throws IllegalArgumentException {
        if (kind != 't' && kind != 'j') {
            throw new IllegalArgumentException("there is no such kind");
        }
        return kind == 't' ? roster.teamCount : roster.judgeCount;
    }

    /** Promise 43. */
    public long scores() {
        return tally.total;
    }

    /** Promise 44. */
    public double meanPenalty() throws ArithmeticException {
        int rooms = history.roomCount();
        if (rooms == 0) {
            throw new ArithmeticException("there are no rooms");
        }
        return (double) history.penaltySum() / (double) rooms;
    }

    private static boolean isSchool(int school) {
        return school >= 0 && school < SCHOOLS;
    }

    private static boolean isScore(int score) {
        return score >= LOWEST_SCORE && score <= HIGHEST_SCORE;
    }

    /** The number by which promise 40 tells a speaker. */
    private static int resultOf(int team, int speaker) {
        return SPEAKERS * team + speaker;
    }

    private void needTeam(int team) {
        if (!roster.hasTeam(team)) {
            throw new NoSuchElementException("there is no such team");
        }
    }

    private void needJudge(int judge) {
        if (!roster.hasJudge(judge)) {
            throw new NoSuchElementException("there is no such judge");
        }
    }

    private static void needSpeaker(int speaker) {
        if (speaker < 0 || speaker >= SPEAKERS) {
            throw new IllegalArgumentException("there is no such speaker");
        }
    }

    private void needAnyRound() {
        if (history.count == 0) {
            throw new IllegalStateException("no round has been drawn");
        }
    }

    private void needRound(int round) {
        if (round < 0 || round >= history.count) {
            throw new NoSuchElementException("there is no such round");
        }
    }

    private void needRoom(int round, int room) {
        if (room < 0 || room >= history.at(round).size) {
            throw new NoSuchElementException("there is no such room");
        }
    }

    private void formAndNeedBracket(int bracket) {
        brackets.form();
        if (bracket < 0 || bracket >= brackets.count) {
            throw new IndexOutOfBoundsException("there is no such bracket");
        }
    }

    private void needPlace(int bracket, int place) {
        if (place < 0 || place >= brackets.sizeOf(bracket)) {
            throw new IndexOutOfBoundsException("there is no such place");
        }
    }

    private void needEvenBracket(int bracket) {
        if (brackets.sizeOf(bracket) % 2 != 0) {
            throw new IllegalStateException("the bracket has an odd number of teams");
        }
    }

    private float checkedMean(int team, int speaker) {
        needTeam(team);
        needSpeaker(speaker);
        int result = resultOf(team, speaker);
        if (tally.speechCounts[result] == 0) {
            throw new ArithmeticException("there are no speeches");
        }
        return tally.meanOf(result);
    }

    /** The bits of a float of at least 1: halving and the steps after it lose nothing, so they are exact. */
    private static int bitsOf(float value) {
        float rest = value;
        int exponent = 127;
        for (int i = 0; i < 127 && rest >= 2.0f; i++) {
            rest = rest / 2.0f;
            exponent++;
        }
        return (exponent << 23) + (int) ((rest - 1.0f) * 8388608.0f);
    }

    /** Sets the pairing up for a bracket that has just been formed. */
    private void preparePairing(int bracket) {
        int size = brackets.sizeOf(bracket);
        pairing.clear(size);
        for (int low = 0; low < size; low++) {
            for (int high = low + 1; high < size; high++) {
                int one = brackets.teamAt(bracket, low);
                int other = brackets.teamAt(bracket, high);
                int base = history.meetingAndSchoolPenalty(one, other, history.count);
                pairing.setCost(low, high, base + foldPenalty(low + high, size));
            }
        }
    }

    /** How far two places are from the pair of the first and the last, the second and the last but one, .. */
    private static int foldPenalty(int placeSum, int size) {
        return Math.abs(placeSum - size + 1);
    }

    /** Fills a round with the rooms of the brackets that have just been formed. */
    private void fillRooms(Round round) {
        round.clear();
        for (int bracket = 0; bracket < brackets.count; bracket++) {
            preparePairing(bracket);
            pairing.findBest();
            for (int place = 0; place < pairing.size; place++) {
                if (pairing.best[place] > place) {
                    fillRoom(round, bracket, place, pairing.best[place]);
                }
            }
        }
    }

    private void fillRoom(Round round, int bracket, int low, int high) {
        int one = brackets.teamAt(bracket, low);
        int other = brackets.teamAt(bracket, high);
        round.places[one] = low;
        round.places[other] = high;
        boolean isOneFirst = history.proposesBefore(one, other);
        int proposition = isOneFirst ? one : other;
        int opposition = isOneFirst ? other : one;
        round.addRoom(bracket, brackets.sizeOf(bracket), proposition, opposition, pairing.costOf(low, high));
    }

    /** The penalty of a pair in a room of the round that was drawn last. */
    private int penaltyInRound(Round round, int room, int one, int other) {
        int placeSum = round.places[one] + round.places[other];
        return history.meetingAndSchoolPenalty(one, other, history.count - 1)
                + foldPenalty(placeSum, round.bracketSizes[room]);
    }

    /** The teams and the judges that have been added. */
    private static final class Roster {
        private final int[] schools = new int[MOST_TEAMS];
        private final boolean[] present = new boolean[MOST_TEAMS];
        private final int[] irons = new int[MOST_TEAMS];
        private final int[] judgeSchools = new int[MOST_JUDGES];
        private final int[] ranks = new int[MOST_JUDGES];
        /** Of each judge, a bit for each team with which there is a conflict. */
        private final int[] conflictBits = new int[MOST_JUDGES];
        private int teamCount;
        private int judgeCount;

        boolean hasTeam(int team) {
            return team >= 0 && team < teamCount;
        }

        boolean hasJudge(int judge) {
            return judge >= 0 && judge < judgeCount;
        }

        int enterTeam(int school) {
            int team = teamCount;
            if (team < MOST_TEAMS) {
                schools[team] = school;
                present[team] = true;
                irons[team] = NONE;
                teamCount++;
            }
            return team;
        }

        int enterJudge(int school, int rank) {
            int judge = judgeCount;
            if (judge < MOST_JUDGES) {
                judgeSchools[judge] = school;
                ranks[judge] = rank;
                judgeCount++;
            }
            return judge;
        }

        void enterConflict(int judge, int team) {
            conflictBits[judge] |= 1 << team;
        }

        boolean isInConflict(int judge, int team) {
            return (conflictBits[judge] & 1 << team) != 0;
        }

        int conflictCount(int judge) {
            return Integer.bitCount(conflictBits[judge]);
        }

        boolean isAllowed(int judge, int team) {
            return judgeSchools[judge] != schools[team] && !isInConflict(judge, team);
        }

        boolean mayJudgeBoth(int judge, int one, int other) {
            return isAllowed(judge, one) && isAllowed(judge, other);
        }

        int presentTeams() {
            int sum = 0;
            for (int team = 0; team < teamCount; team++) {
                if (present[team]) {
                    sum++;
                }
            }
            return sum;
        }
    }

    /** What the ballots have brought to teams and speakers. */
    private static final class Tally {
        private final int[] wins = new int[MOST_TEAMS];
        private final int[] points = new int[MOST_TEAMS];
        private final int[] speechCounts = new int[MOST_TEAMS * SPEAKERS];
        private final int[] speechSums = new int[MOST_TEAMS * SPEAKERS];
        private long total;

        void enterSpeeches(int team, int iron, int first, int second) {
            enterSpeech(resultOf(team, iron == NONE ? 0 : iron), first);
            enterSpeech(resultOf(team, iron == NONE ? 1 : iron), second);
            points[team] += first + second;
            total += first + second;
        }

        private void enterSpeech(int result, int score) {
            speechCounts[result]++;
            speechSums[result] += score;
        }

        /** The average of a speaker who has held speeches; 0 of others, so that none is not a number. */
        float meanOf(int result) {
            if (speechCounts[result] == 0) {
                return 0.0f;
            }
            return (float) speechSums[result] / (float) speechCounts[result];
        }

        int speakerAt(int rank) {
            for (int result = 0; result < speechCounts.length; result++) {
                if (speechCounts[result] > 0 && speakersAhead(result) == rank) {
                    return result;
                }
            }
            return NONE;
        }

        private int speakersAhead(int result) {
            int ahead = 0;
            for (int other = 0; other < speechCounts.length; other++) {
                if (other != result && speechCounts[other] > 0 && isAhead(other, result)) {
                    ahead++;
                }
            }
            return ahead;
        }

        private boolean isAhead(int one, int other) {
            float oneMean = meanOf(one);
            float otherMean = meanOf(other);
            if (oneMean != otherMean) {
                return oneMean > otherMean;
            }
            if (speechCounts[one] != speechCounts[other]) {
                return speechCounts[one] > speechCounts[other];
            }
            return one < other;
        }
    }

    /** The rooms of one round. */
    private static final class Round {
        private final int[] propositions = new int[MOST_ROOMS];
        private final int[] oppositions = new int[MOST_ROOMS];
        private final int[] judges = new int[MOST_ROOMS];
        private final int[] penalties = new int[MOST_ROOMS];
        private final int[] bracketNumbers = new int[MOST_ROOMS];
        private final int[] bracketSizes = new int[MOST_ROOMS];
        private final char[] winners = new char[MOST_ROOMS];
        /** Of each team that has a room, its place in its bracket. */
        private final int[] places = new int[MOST_TEAMS];
        private int size;

        void clear() {
            size = 0;
        }

        void addRoom(int bracket, int bracketSize, int proposition, int opposition, int penalty) {
            if (size < MOST_ROOMS) {
                propositions[size] = proposition;
                oppositions[size] = opposition;
                penalties[size] = penalty;
                bracketNumbers[size] = bracket;
                bracketSizes[size] = bracketSize;
                winners[size] = '-';
                size++;
            }
        }

        int openRooms() {
            int sum = 0;
            for (int room = 0; room < size; room++) {
                if (winners[room] == '-') {
                    sum++;
                }
            }
            return sum;
        }

        int firstOpenRoom() {
            for (int room = 0; room < size; room++) {
                if (winners[room] == '-') {
                    return room;
                }
            }
            return NONE;
        }

        boolean holds(int room, int team) {
            return propositions[room] == team || oppositions[room] == team;
        }

        int roomOf(int team) {
            for (int room = 0; room < size; room++) {
                if (holds(room, team)) {
                    return room;
                }
            }
            return NONE;
        }

        int rivalIn(int room, int team) {
            return propositions[room] == team ? oppositions[room] : propositions[room];
        }

        /** Whether two rooms are such that teams can change between them, whatever judges and penalties say. */
        boolean mayTrade(int one, int other) {
            return one != other && winners[one] == '-' && winners[other] == '-'
                    && bracketNumbers[one] == bracketNumbers[other];
        }

        void replace(int room, int leaving, int coming, int penalty) {
            if (propositions[room] == leaving) {
                propositions[room] = coming;
            } else {
                oppositions[room] = coming;
            }
            penalties[room] = penalty;
        }
    }

    /** The rounds that have been drawn: the first rows, as many as count. */
    private static final class History {
        private final Roster roster;
        private final Round[] rows = new Round[MOST_ROUNDS];
        private int count;

        History(Roster roster) {
            this.roster = roster;
            for (int i = 0; i < MOST_ROUNDS; i++) {
                rows[i] = new Round();
            }
        }

        Round at(int round) {
            return rows[round];
        }

        Round last() {
            return rows[count > 0 ? count - 1 : 0];
        }

        /** The row that the next draw fills. */
        Round spare() {
            return rows[count < MOST_ROUNDS ? count : MOST_ROUNDS - 1];
        }

        /** How often two teams have met in the first rounds. */
        int meetings(int one, int other, int rounds) {
            int sum = 0;
            for (int round = 0; round < rounds; round++) {
                Round row = rows[round];
                for (int room = 0; room < row.size; room++) {
                    if (row.holds(room, one) && row.holds(room, other)) {
                        sum++;
                    }
                }
            }
            return sum;
        }

        int propositionsOf(int team) {
            int sum = 0;
            for (int round = 0; round < count; round++) {
                Round row = rows[round];
                for (int room = 0; room < row.size; room++) {
                    if (row.propositions[room] == team) {
                        sum++;
                    }
                }
            }
            return sum;
        }

        boolean proposesBefore(int one, int other) {
            int ofOne = propositionsOf(one);
            int ofOther = propositionsOf(other);
            return ofOne != ofOther ? ofOne < ofOther : one < other;
        }

        int strengthOf(int team, Tally tally) {
            int sum = 0;
            for (int round = 0; round < count; round++) {
                Round row = rows[round];
                int room = row.roomOf(team);
                if (room != NONE && row.winners[room] != '-') {
                    sum += tally.wins[row.rivalIn(room, team)];
                }
            }
            return sum;
        }

        /** What a pair costs wherever its teams are in the bracket. */
        int meetingAndSchoolPenalty(int one, int other, int rounds) {
            int bySchool = roster.schools[one] == roster.schools[other] ? SCHOOL_PENALTY : 0;
            return MEETING_PENALTY * meetings(one, other, rounds) + bySchool;
        }

        int roomCount() {
            int sum = 0;
            for (int round = 0; round < count; round++) {
                sum += rows[round].size;
            }
            return sum;
        }

        int penaltySum() {
            int sum = 0;
            for (int round = 0; round < count; round++) {
                for (int room = 0; room < rows[round].size; room++) {
                    sum += rows[round].penalties[room];
                }
            }
            return sum;
        }
    }

    /** All teams in the order in which they stand. */
    private static final class Ranking {
        private final Roster roster;
        private final Tally tally;
        private final History history;
        private final int[] order = new int[MOST_TEAMS];
        private final int[] strengths = new int[MOST_TEAMS];
        private final int[] schoolCounts = new int[SCHOOLS];

        Ranking(Roster roster, Tally tally, History history) {
            this.roster = roster;
            this.tally = tally;
            this.history = history;
        }

        void sort() {
            for (int team = 0; team < roster.teamCount; team++) {
                strengths[team] = history.strengthOf(team, tally);
            }
            // Teams come in by their numbers and pass only those that they beat, so the lower number stays ahead.
            for (int team = 0; team < roster.teamCount; team++) {
                int at = team;
                while (at > 0 && isAhead(team, order[at - 1])) {
                    order[at] = order[at - 1];
                    at--;
                }
                order[at] = team;
            }
        }

        private boolean isAhead(int one, int other) {
            if (tally.wins[one] != tally.wins[other]) {
                return tally.wins[one] > tally.wins[other];
            }
            if (tally.points[one] != tally.points[other]) {
                return tally.points[one] > tally.points[other];
            }
            return strengths[one] > strengths[other];
        }

        int breakingTeam(int seed) {
            Arrays.fill(schoolCounts, 0);
            int breaking = 0;
            for (int rank = 0; rank < roster.teamCount; rank++) {
                int school = roster.schools[order[rank]];
                if (schoolCounts[school] < BREAKS_PER_SCHOOL) {
                    if (breaking == seed) {
                        return order[rank];
                    }
                    schoolCounts[school]++;
                    breaking++;
                }
            }
            return NONE;
        }
    }

    /** The brackets of a round that would be drawn now. */
    private static final class Brackets {
        private final Roster roster;
        private final Tally tally;
        private final Ranking ranking;
        /** The present teams as they stand; a bracket is the run from its start to that of the next one. */
        private final int[] members = new int[MOST_TEAMS];
        private final int[] starts = new int[MOST_TEAMS + 1];
        private int count;

        Brackets(Roster roster, Tally tally, Ranking ranking) {
            this.roster = roster;
            this.tally = tally;
            this.ranking = ranking;
        }

        void form() {
            ranking.sort();
            int total = gatherMembers();
            count = 0;
            for (int at = 1; at < total; at++) {
                if (isStart(at)) {
                    count++;
                    starts[count] = at;
                }
            }
            if (total > 0) {
                count++;
                starts[count] = total;
            }
        }

        private int gatherMembers() {
            int total = 0;
            for (int rank = 0; rank < roster.teamCount; rank++) {
                int team = ranking.order[rank];
                if (roster.present[team]) {
                    members[total] = team;
                    total++;
                }
            }
            return total;
        }

        /** A team with other wins begins a bracket, but where the one before is odd it is pulled up instead. */
        private boolean isStart(int at) {
            int start = starts[count];
            return tally.wins[members[at]] != tally.wins[members[start]] && (at - start) % 2 == 0;
        }

        int sizeOf(int bracket) {
            return starts[bracket + 1] - starts[bracket];
        }

        int teamAt(int bracket, int place) {
            return members[starts[bracket] + place];
        }
    }

    /** The pairing of one bracket, told in places. */
    private static final class Pairing {
        private final int[] costs = new int[MOST_TEAMS * MOST_TEAMS];
        /** The opponents as they are being tried, and as the best pairing found so far has them. */
        private final int[] tried = new int[MOST_TEAMS];
        private final int[] best = new int[MOST_TEAMS];
        private int size;
        private int least;

        void clear(int newSize) {
            size = newSize;
            Arrays.fill(tried, NONE);
            Arrays.fill(best, NONE);
        }

        void setCost(int low, int high, int cost) {
            costs[low * MOST_TEAMS + high] = cost;
        }

        int costOf(int low, int high) {
            return costs[low * MOST_TEAMS + high];
        }

        void findBest() {
            // No best pairing costs more than this one, so the search can give up early from the start.
            least = foldedCost() + 1;
            search(this, 0, 0);
        }

        int leastOfAll() {
            return tryAll(this, 0);
        }

        private int foldedCost() {
            int sum = 0;
            for (int low = 0; low < size / 2; low++) {
                sum += costOf(low, size - 1 - low);
            }
            return sum;
        }

        private int firstFree() {
            for (int place = 0; place < size; place++) {
                if (tried[place] == NONE) {
                    return place;
                }
            }
            return NONE;
        }

        private void join(int low, int high) {
            tried[low] = high;
            tried[high] = low;
        }

        private void part(int low, int high) {
            tried[low] = NONE;
            tried[high] = NONE;
        }

        private void keepTried(int cost) {
            least = cost;
            System.arraycopy(tried, 0, best, 0, size);
        }

        /** Pairings come by the lower places first, so of several best ones the first that is found is kept. */
        private static void search(Pairing pairing, int pairs, int cost) {
            if (pairs > MOST_ROOMS || cost >= pairing.least) {
                return;
            }
            int low = pairing.firstFree();
            if (low == NONE) {
                pairing.keepTried(cost);
                return;
            }
            for (int high = low + 1; high < pairing.size; high++) {
                if (pairing.tried[high] == NONE) {
                    pairing.join(low, high);
                    search(pairing, pairs + 1, cost + pairing.costOf(low, high));
                    pairing.part(low, high);
                }
            }
        }

        /** The least penalty of all ways to pair the places that are free. */
        private static int tryAll(Pairing pairing, int pairs) {
            int low = pairing.firstFree();
            if (pairs > MOST_ROOMS || low == NONE) {
                return 0;
            }
            int smallest = NONE;
            for (int high = low + 1; high < pairing.size; high++) {
                if (pairing.tried[high] == NONE) {
                    pairing.join(low, high);
                    int cost = pairing.costOf(low, high) + tryAll(pairing, pairs + 1);
                    pairing.part(low, high);
                    smallest = smallest == NONE ? cost : Math.min(smallest, cost);
                }
            }
            return smallest;
        }
    }

    /** Puts judges into the rooms of a round. */
    private static final class Panel {
        private final Roster roster;
        /** The judges, those with greater ranks first, then those with lower numbers. */
        private final int[] order = new int[MOST_JUDGES];
        private final boolean[] seated = new boolean[MOST_JUDGES];

        Panel(Roster roster) {
            this.roster = roster;
        }

        boolean seat(Round round) {
            sort();
            for (int judge = 0; judge < MOST_JUDGES; judge++) {
                seated[judge] = false;
            }
            return seatFrom(this, round, 0);
        }

        private void sort() {
            for (int judge = 0; judge < roster.judgeCount; judge++) {
                int at = judge;
                while (at > 0 && roster.ranks[judge] > roster.ranks[order[at - 1]]) {
                    order[at] = order[at - 1];
                    at--;
                }
                order[at] = judge;
            }
        }

        /** Judges are tried by rank from the first room on, so the first way that is found is the one to take. */
        private static boolean seatFrom(Panel panel, Round round, int room) {
            if (room >= round.size) {
                return true;
            }
            for (int i = 0; i < panel.roster.judgeCount; i++) {
                int judge = panel.order[i];
                if (panel.mayTake(judge, round, room)) {
                    panel.seated[judge] = true;
                    round.judges[room] = judge;
                    if (seatFrom(panel, round, room + 1)) {
                        return true;
                    }
                    panel.seated[judge] = false;
                }
            }
            return false;
        }

        private boolean mayTake(int judge, Round round, int room) {
            return !seated[judge]
                    && roster.mayJudgeBoth(judge, round.propositions[room], round.oppositions[room]);
        }
    }
}
