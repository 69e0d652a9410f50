import java.util.ArrayList;
import java.util.Arrays;
import java.util.Comparator;
import java.util.HashMap;
import java.util.HashSet;
import java.util.List;
import java.util.Map;
import java.util.NoSuchElementException;
import java.util.Set;

/**
 * The document once more, told as plainly as can be and with no care for speed: all is counted from the rooms,
 * pairings and judges are found by listing every way and comparing. Its methods bear the names of the face.
 */
public final class Model {
    private static final class Team {
        int school;
        boolean present = true;
        int iron = -1;
    }

    private static final class Judge {
        int school;
        int rank;
        Set<Integer> conflicts = new HashSet<>();
    }

    private static final class Room {
        int[] teams = new int[2];
        int judge;
        int penalty;
        int bracket;
        int bracketSize;
        int[] scores = null;
        /** Whose speech each score is: twice the team plus the speaker. */
        int[] speakers = new int[4];

        boolean has(int team) {
            return teams[0] == team || teams[1] == team;
        }

        int other(int team) {
            return teams[0] == team ? teams[1] : teams[0];
        }

        char won() {
            if (scores == null) {
                return '-';
            }
            return scores[0] + scores[1] > scores[2] + scores[3] ? 'p' : 'o';
        }
    }

    private static final class Round {
        List<Room> rooms = new ArrayList<>();
        Map<Integer, Integer> places = new HashMap<>();
    }

    private final List<Team> teams = new ArrayList<>();
    private final List<Judge> judges = new ArrayList<>();
    private final List<Round> rounds = new ArrayList<>();

    public int addTeam(int school) {
        if (school < 0 || school > 5) {
            throw new IllegalArgumentException();
        }
        if (teams.size() == 12) {
            throw new IllegalStateException();
        }
        Team team = new Team();
        team.school = school;
        teams.add(team);
        return teams.size() - 1;
    }

    public int addJudge(int school, int rank) {
        if (school < 0 || school > 5 || rank < 1 || rank > 9) {
            throw new IllegalArgumentException();
        }
        if (judges.size() == 8) {
            throw new IllegalStateException();
        }
        Judge judge = new Judge();
        judge.school = school;
        judge.rank = rank;
        judges.add(judge);
        return judges.size() - 1;
    }

    public int addConflict(int judge, int team) {
        Judge it = judge(judge);
        team(team);
        if (!it.conflicts.add(team)) {
            throw new IllegalStateException();
        }
        return it.conflicts.size();
    }

    public boolean setPresent(int team, boolean isPresent) {
        boolean before = team(team).present;
        team(team).present = isPresent;
        return before;
    }

    public int setIron(int team, int speaker) {
        int before = team(team).iron;
        if (speaker < -1 || speaker > 1) {
            throw new IllegalArgumentException();
        }
        team(team).iron = speaker;
        return before;
    }

    public int draw() {
        long present = teams.stream().filter(t -> t.present).count();
        if (rounds.size() == 6 || !rounds.isEmpty() && missing() > 0 || present % 2 == 1 || present == 0) {
            throw new IllegalStateException();
        }
        Round round = new Round();
        List<List<Integer>> all = allBrackets();
        for (int b = 0; b < all.size(); b++) {
            List<Integer> members = all.get(b);
            int[] best = bestPairing(members);
            for (int i = 0; i < best.length; i++) {
                round.places.put(members.get(i), i);
                if (best[i] > i) {
                    Room room = new Room();
                    int low = Math.min(members.get(i), members.get(best[i]));
                    int high = Math.max(members.get(i), members.get(best[i]));
                    boolean lowFirst = proposed(low) <= proposed(high);
                    room.teams = lowFirst ? new int[] {low, high} : new int[] {high, low};
                    room.bracket = b;
                    room.bracketSize = members.size();
                    room.penalty = penalty(members.get(i), members.get(best[i]), i, best[i], members.size(),
                            rounds.size());
                    round.rooms.add(room);
                }
            }
        }
        int[] panel = bestPanel(round.rooms, new int[round.rooms.size()], 0, null);
        if (panel == null) {
            throw new UnsupportedOperationException();
        }
        for (int i = 0; i < panel.length; i++) {
            round.rooms.get(i).judge = panel[i];
        }
        rounds.add(round);
        return rounds.size() - 1;
    }

    public int ballot(int room, int first, int second, int third, int fourth) {
        Room it = room(needLast(), room);
        int[] scores = {first, second, third, fourth};
        for (int score : scores) {
            if (score < 60 || score > 80) {
                throw new IllegalArgumentException();
            }
        }
        if (first + second == third + fourth) {
            throw new IllegalArgumentException();
        }
        if (it.scores != null) {
            throw new UnsupportedOperationException();
        }
        it.scores = scores;
        for (int i = 0; i < 4; i++) {
            int iron = teams.get(it.teams[i / 2]).iron;
            it.speakers[i] = 2 * it.teams[i / 2] + (iron == -1 ? i % 2 : iron);
        }
        return it.won() == 'p' ? it.teams[0] : it.teams[1];
    }

    public int swap(int one, int other) {
        Round round = rounds.get(needLast());
        team(one);
        team(other);
        Room oneRoom = round.rooms.stream().filter(r -> r.has(one)).findFirst().orElseThrow();
        Room otherRoom = round.rooms.stream().filter(r -> r.has(other)).findFirst().orElseThrow();
        int oneRival = oneRoom.other(one);
        int otherRival = otherRoom.other(other);
        int now = oneRoom.penalty + otherRoom.penalty;
        int onePenalty = penaltyAgain(round, oneRoom, other, oneRival);
        int otherPenalty = penaltyAgain(round, otherRoom, one, otherRival);
        if (oneRoom == otherRoom || oneRoom.scores != null || otherRoom.scores != null
                || oneRoom.bracket != otherRoom.bracket
                || !mayJudge(oneRoom.judge, other) || !mayJudge(oneRoom.judge, oneRival)
                || !mayJudge(otherRoom.judge, one) || !mayJudge(otherRoom.judge, otherRival)
                || onePenalty + otherPenalty > now) {
            throw new UnsupportedOperationException();
        }
        oneRoom.teams[oneRoom.teams[0] == one ? 0 : 1] = other;
        otherRoom.teams[otherRoom.teams[0] == other ? 0 : 1] = one;
        oneRoom.penalty = onePenalty;
        otherRoom.penalty = otherPenalty;
        return now - onePenalty - otherPenalty;
    }

    private int penaltyAgain(Round round, Room room, int one, int other) {
        return penalty(one, other, round.places.get(one), round.places.get(other), room.bracketSize,
                rounds.size() - 1);
    }

    public int teams() {
        return teams.size();
    }

    public int judges() {
        return judges.size();
    }

    public int rounds() {
        return rounds.size();
    }

    public int schoolOf(int team) {
        return team(team).school;
    }

    public boolean isPresent(int team) {
        return team(team).present;
    }

    public boolean mayJudge(int judge, int team) {
        return judge(judge).school != team(team).school && !judge(judge).conflicts.contains(team);
    }

    public int conflicts(int judge) {
        return judge(judge).conflicts.size();
    }

    public int wins(int team) {
        team(team);
        int sum = 0;
        for (Room room : allRooms()) {
            if (room.won() == 'p' && room.teams[0] == team || room.won() == 'o' && room.teams[1] == team) {
                sum++;
            }
        }
        return sum;
    }

    public int points(int team) {
        team(team);
        int sum = 0;
        for (Room room : allRooms()) {
            if (room.scores != null && room.teams[0] == team) {
                sum += room.scores[0] + room.scores[1];
            }
            if (room.scores != null && room.teams[1] == team) {
                sum += room.scores[2] + room.scores[3];
            }
        }
        return sum;
    }

    public int strength(int team) {
        team(team);
        int sum = 0;
        for (Room room : allRooms()) {
            if (room.scores != null && room.has(team)) {
                sum += wins(room.other(team));
            }
        }
        return sum;
    }

    public int standing(int rank) {
        if (rank < 0 || rank >= teams.size()) {
            throw new IndexOutOfBoundsException();
        }
        return order().get(rank);
    }

    public int met(int one, int other) {
        team(one);
        team(other);
        if (one == other) {
            throw new IllegalArgumentException();
        }
        return metIn(one, other, rounds.size());
    }

    public int proposed(int team) {
        team(team);
        return (int) allRooms().stream().filter(r -> r.teams[0] == team).count();
    }

    public int brackets() {
        return allBrackets().size();
    }

    public int bracketSize(int bracket) {
        return bracket(bracket).size();
    }

    public int bracketAt(int bracket, int place) {
        return at(bracket(bracket), place);
    }

    public int leastPenalty(int bracket) {
        List<Integer> members = even(bracket(bracket));
        return penaltyOfPairing(members, bestPairing(members));
    }

    public int leastByTrying(int bracket) {
        List<Integer> members = even(bracket(bracket));
        if (members.size() > 8) {
            throw new UnsupportedOperationException();
        }
        return penaltyOfPairing(members, bestPairing(members));
    }

    public int opponent(int bracket, int place) {
        List<Integer> members = bracket(bracket);
        at(members, place);
        return bestPairing(even(members))[place];
    }

    public int rooms(int round) {
        return round(round).rooms.size();
    }

    public int teamIn(int round, int room, char side) {
        Room it = room(round, room);
        if (side != 'p' && side != 'o') {
            throw new IllegalArgumentException();
        }
        return it.teams[side == 'p' ? 0 : 1];
    }

    public int judgeIn(int round, int room) {
        return room(round, room).judge;
    }

    public int penaltyOf(int round, int room) {
        return room(round, room).penalty;
    }

    public char winner(int round, int room) {
        return room(round, room).won();
    }

    public int missing() {
        return (int) rounds.get(needLast()).rooms.stream().filter(r -> r.scores == null).count();
    }

    public int nextRoom() {
        List<Room> rooms = rounds.get(needLast()).rooms;
        for (int i = 0; i < rooms.size(); i++) {
            if (rooms.get(i).scores == null) {
                return i;
            }
        }
        throw new NoSuchElementException();
    }

    public int speeches(int team, int speaker) {
        team(team);
        if (speaker != 0 && speaker != 1) {
            throw new IllegalArgumentException();
        }
        return held(2 * team + speaker).size();
    }

    public float average(int team, int speaker) {
        if (speeches(team, speaker) == 0) {
            throw new ArithmeticException();
        }
        return averageOf(2 * team + speaker);
    }

    public int averageBits(int team, int speaker) {
        return Float.floatToIntBits(average(team, speaker));
    }

    public int averageTenths(int team, int speaker) {
        return (int) (average(team, speaker) * 10.0f);
    }

    public int bestSpeaker(int rank) {
        List<Integer> speakers = new ArrayList<>();
        for (int i = 0; i < 2 * teams.size(); i++) {
            if (!held(i).isEmpty()) {
                speakers.add(i);
            }
        }
        speakers.sort(Comparator.comparing((Integer i) -> -averageOf(i)).thenComparing(i -> -held(i).size())
                .thenComparing(i -> i));
        if (rank < 0 || rank >= speakers.size()) {
            throw new IndexOutOfBoundsException();
        }
        return speakers.get(rank);
    }

    public int breaks(int seed, int size) {
        if (size != 2 && size != 4 && size != 8) {
            throw new IllegalArgumentException();
        }
        List<Integer> seeds = new ArrayList<>();
        for (int team : order()) {
            if (seeds.size() < size
                    && seeds.stream().filter(s -> schoolOf(s) == schoolOf(team)).count() < 2) {
                seeds.add(team);
            }
        }
        if (seed < 0 || seed >= seeds.size()) {
            throw new IndexOutOfBoundsException();
        }
        return seeds.get(seed);
    }

    public int people(char kind) {
        if (kind == 't') {
            return teams.size();
        }
        if (kind == 'j') {
            return judges.size();
        }
        throw new IllegalArgumentException();
    }

    public long scores() {
        long sum = 0;
        for (Room room : allRooms()) {
            if (room.scores != null) {
                sum += Arrays.stream(room.scores).sum();
            }
        }
        return sum;
    }

    public double meanPenalty() {
        if (allRooms().isEmpty()) {
            throw new ArithmeticException();
        }
        long sum = allRooms().stream().mapToLong(r -> r.penalty).sum();
        return (double) sum / (double) allRooms().size();
    }

    private Team team(int team) {
        if (team < 0 || team >= teams.size()) {
            throw new NoSuchElementException();
        }
        return teams.get(team);
    }

    private Judge judge(int judge) {
        if (judge < 0 || judge >= judges.size()) {
            throw new NoSuchElementException();
        }
        return judges.get(judge);
    }

    private Round round(int round) {
        if (round < 0 || round >= rounds.size()) {
            throw new NoSuchElementException();
        }
        return rounds.get(round);
    }

    private Room room(int round, int room) {
        List<Room> rooms = round(round).rooms;
        if (room < 0 || room >= rooms.size()) {
            throw new NoSuchElementException();
        }
        return rooms.get(room);
    }

    private int needLast() {
        if (rounds.isEmpty()) {
            throw new IllegalStateException();
        }
        return rounds.size() - 1;
    }

    private List<Integer> bracket(int bracket) {
        List<List<Integer>> all = allBrackets();
        if (bracket < 0 || bracket >= all.size()) {
            throw new IndexOutOfBoundsException();
        }
        return all.get(bracket);
    }

    private static int at(List<Integer> members, int place) {
        if (place < 0 || place >= members.size()) {
            throw new IndexOutOfBoundsException();
        }
        return members.get(place);
    }

    private static List<Integer> even(List<Integer> members) {
        if (members.size() % 2 == 1) {
            throw new IllegalStateException();
        }
        return members;
    }

    private List<Room> allRooms() {
        List<Room> rooms = new ArrayList<>();
        for (Round round : rounds) {
            rooms.addAll(round.rooms);
        }
        return rooms;
    }

    private List<Integer> held(int speaker) {
        List<Integer> held = new ArrayList<>();
        for (Room room : allRooms()) {
            for (int i = 0; i < 4 && room.scores != null; i++) {
                if (room.speakers[i] == speaker) {
                    held.add(room.scores[i]);
                }
            }
        }
        return held;
    }

    private float averageOf(int speaker) {
        List<Integer> held = held(speaker);
        int sum = held.stream().mapToInt(i -> i).sum();
        return (float) sum / (float) held.size();
    }

    private List<Integer> order() {
        List<Integer> order = new ArrayList<>();
        for (int i = 0; i < teams.size(); i++) {
            order.add(i);
        }
        order.sort(Comparator.comparing((Integer t) -> -wins(t)).thenComparing(t -> -points(t))
                .thenComparing(t -> -strength(t)).thenComparing(t -> t));
        return order;
    }

    private List<List<Integer>> allBrackets() {
        List<Integer> left = order();
        left.removeIf(t -> !teams.get(t).present);
        List<List<Integer>> all = new ArrayList<>();
        while (!left.isEmpty()) {
            List<Integer> bracket = new ArrayList<>();
            int wins = wins(left.get(0));
            while (!left.isEmpty() && wins(left.get(0)) == wins) {
                bracket.add(left.remove(0));
            }
            if (bracket.size() % 2 == 1 && !left.isEmpty()) {
                bracket.add(left.remove(0));
            }
            all.add(bracket);
        }
        return all;
    }

    private int metIn(int one, int other, int first) {
        int sum = 0;
        for (Round round : rounds.subList(0, first)) {
            for (Room room : round.rooms) {
                if (room.has(one) && room.has(other)) {
                    sum++;
                }
            }
        }
        return sum;
    }

    private int penalty(int one, int other, int onePlace, int otherPlace, int size, int first) {
        int sum = 100 * metIn(one, other, first);
        if (schoolOf(one) == schoolOf(other)) {
            sum += 30;
        }
        return sum + Math.abs(onePlace + otherPlace - size + 1);
    }

    private int penaltyOfPairing(List<Integer> members, int[] opponents) {
        int sum = 0;
        for (int i = 0; i < opponents.length; i++) {
            if (opponents[i] > i) {
                sum += penalty(members.get(i), members.get(opponents[i]), i, opponents[i], members.size(),
                        rounds.size());
            }
        }
        return sum;
    }

    /** The least by penalty and then by the opponents from the first place on, of all pairings, from the last. */
    private int[] bestPairing(List<Integer> members) {
        int n = members.size();
        int[][] costs = new int[n][n];
        for (int i = 0; i < n; i++) {
            for (int j = 0; j < n; j++) {
                if (i != j) {
                    costs[i][j] = penalty(members.get(i), members.get(j), i, j, n, rounds.size());
                }
            }
        }
        int[] opponents = new int[n];
        Arrays.fill(opponents, -1);
        int[][] best = new int[1][];
        listPairings(costs, opponents, 0, new int[] {Integer.MAX_VALUE}, best);
        return best[0];
    }

    private static void listPairings(int[][] costs, int[] opponents, int cost, int[] least, int[][] best) {
        int n = opponents.length;
        int free = n - 1;
        while (free >= 0 && opponents[free] != -1) {
            free--;
        }
        if (free < 0) {
            if (cost < least[0] || cost == least[0] && Arrays.compare(opponents, best[0]) < 0) {
                least[0] = cost;
                best[0] = opponents.clone();
            }
            return;
        }
        for (int other = 0; other < free; other++) {
            if (opponents[other] == -1) {
                opponents[other] = free;
                opponents[free] = other;
                listPairings(costs, opponents, cost + costs[free][other], least, best);
                opponents[other] = -1;
                opponents[free] = -1;
            }
        }
    }

    private int[] bestPanel(List<Room> rooms, int[] panel, int done, int[] best) {
        if (done == panel.length) {
            return best == null || isBetter(panel, best) ? panel.clone() : best;
        }
        for (int judge = judges.size() - 1; judge >= 0; judge--) {
            boolean used = false;
            for (int i = 0; i < done; i++) {
                used = used || panel[i] == judge;
            }
            Room room = rooms.get(done);
            if (!used && mayJudge(judge, room.teams[0]) && mayJudge(judge, room.teams[1])) {
                panel[done] = judge;
                best = bestPanel(rooms, panel, done + 1, best);
            }
        }
        return best;
    }

    private boolean isBetter(int[] one, int[] other) {
        for (int i = 0; i < one.length; i++) {
            if (one[i] != other[i]) {
                int ofOne = judges.get(one[i]).rank;
                int ofOther = judges.get(other[i]).rank;
                return ofOne != ofOther ? ofOne > ofOther : one[i] < other[i];
            }
        }
        return false;
    }
}
