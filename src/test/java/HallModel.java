import java.math.BigInteger;
import java.util.ArrayList;
import java.util.Arrays;
import java.util.Comparator;
import java.util.HashMap;
import java.util.HashSet;
import java.util.List;
import java.util.Map;
import java.util.NoSuchElementException;
import java.util.Set;

/**
 * The document told a second time, as plainly as it can be and without care for time and room: nothing is kept
 * that can be found anew, orders are tried one by one, and ratings are solved with fractions.
 */
final class HallModel {
    static final class Question {
        int category;
        int theme;
        int mark;
        List<Integer> words = new ArrayList<>();
        Map<String, Character> lines = new HashMap<>();
    }

    static final class Player {
        int team;
        int reaction;
        int[] knowledge = new int[6];
        Set<Integer> seen = new HashSet<>();
    }

    /** Something that was ruled, or a part of a bonus that was right. */
    static final class Event {
        boolean isPart;
        int tossup;
        int side;
        int player;
        int words;
        int question;
        boolean isRight;
        boolean isInPower;
        boolean wouldCost;
    }

    static final class Match {
        int[] teams;
        int packet;
        boolean isOver;
        Set<Integer> heard = new HashSet<>();
        List<Event> log = new ArrayList<>();
        List<Integer> protests = new ArrayList<>();
        Map<Integer, Boolean> outcomes = new HashMap<>();

        List<Event> rulings() {
            List<Event> found = new ArrayList<>();
            for (Event event : log) {
                if (!event.isPart) {
                    found.add(event);
                }
            }
            return found;
        }

        int score(Set<Integer> upheld, int side) {
            int sum = 0;
            int number = -1;
            Set<Integer> closed = new HashSet<>();
            for (Event event : log) {
                if (!event.isPart) {
                    number++;
                }
                if (closed.contains(event.tossup)) {
                    continue;
                }
                if (event.isPart) {
                    sum += event.side == side ? 10 : 0;
                    continue;
                }
                boolean isRight = event.isRight;
                if (upheld.contains(number)) {
                    isRight = !isRight;
                    closed.add(event.tossup);
                }
                int worth = isRight ? (event.isInPower ? 15 : 10) : (event.wouldCost ? -5 : 0);
                sum += event.side == side ? worth : 0;
            }
            return sum;
        }

        Set<Integer> upheld() {
            Set<Integer> found = new HashSet<>();
            for (Map.Entry<Integer, Boolean> outcome : outcomes.entrySet()) {
                if (outcome.getValue()) {
                    found.add(outcome.getKey());
                }
            }
            return found;
        }

        int now(int side) {
            return score(upheld(), side);
        }

        int side(int team) {
            return team == teams[0] ? 0 : team == teams[1] ? 1 : -1;
        }
    }

    final List<Question> questions = new ArrayList<>();
    final int[] quotas = new int[6];
    final List<List<Integer>> packets = new ArrayList<>();
    final List<Integer> pools = new ArrayList<>();
    final List<Player> players = new ArrayList<>();
    final List<Match> matches = new ArrayList<>();
    String text = "";
    char phase = '-';
    int place;
    int words;
    Set<Integer> blocked = new HashSet<>();
    Map<Integer, Integer> buzzes = new HashMap<>();
    int answerer;
    boolean isPrompted;
    int controls;
    int parts;
    boolean isBounced;

    private static void index(boolean isFine) {
        if (!isFine) {
            throw new IndexOutOfBoundsException();
        }
    }

    private static void argument(boolean isFine) {
        if (!isFine) {
            throw new IllegalArgumentException();
        }
    }

    private static void state(boolean isFine) {
        if (!isFine) {
            throw new IllegalStateException();
        }
    }

    private static void supported(boolean isFine) {
        if (!isFine) {
            throw new UnsupportedOperationException();
        }
    }

    private static boolean in(int number, List<?> list) {
        return number >= 0 && number < list.size();
    }

    private static boolean in(int number, int most) {
        return number >= 0 && number <= most;
    }

    int question(int category, int theme) {
        argument(in(category, 5) && in(theme, 99));
        state(questions.size() < 24);
        Question added = new Question();
        added.category = category;
        added.theme = theme;
        questions.add(added);
        return questions.size() - 1;
    }

    private boolean isPacked(int question) {
        for (List<Integer> packet : packets) {
            if (packet.contains(question)) {
                return true;
            }
        }
        return false;
    }

    int word(int question, int word) {
        index(in(question, questions));
        argument(in(word, 99));
        supported(!isPacked(question));
        state(questions.get(question).words.size() < 40);
        questions.get(question).words.add(word);
        return questions.get(question).words.size();
    }

    int power(int question, int mark) {
        index(in(question, questions));
        argument(in(mark, 40));
        int before = questions.get(question).mark;
        questions.get(question).mark = mark;
        return before;
    }

    private Set<List<Integer>> shingles(int question) {
        List<Integer> all = questions.get(question).words;
        Set<List<Integer>> found = new HashSet<>();
        for (int i = 0; i + 3 <= all.size(); i++) {
            found.add(new ArrayList<>(all.subList(i, i + 3)));
        }
        return found;
    }

    int repeats(int question, int other) {
        index(in(question, questions) && in(other, questions));
        Set<List<Integer>> shared = shingles(question);
        shared.retainAll(shingles(other));
        return shared.size();
    }

    int type(char letter) {
        argument(letter >= 'a' && letter <= 'z');
        state(text.length() < 12);
        text += letter;
        return text.length();
    }

    int wipe() {
        int before = text.length();
        text = "";
        return before;
    }

    int line(int question, char kind) {
        index(in(question, questions));
        argument("apn".indexOf(kind) >= 0);
        supported(!text.isEmpty());
        Map<String, Character> lines = questions.get(question).lines;
        state(lines.containsKey(text) || lines.size() < 6);
        lines.put(text, kind);
        text = "";
        return lines.size();
    }

    private static int distance(String one, String other) {
        int[][] least = new int[one.length() + 1][other.length() + 1];
        for (int i = 0; i <= one.length(); i++) {
            for (int j = 0; j <= other.length(); j++) {
                if (i == 0 || j == 0) {
                    least[i][j] = i + j;
                } else {
                    int change = one.charAt(i - 1) == other.charAt(j - 1) ? 0 : 1;
                    int changed = least[i - 1][j - 1] + change;
                    least[i][j] = Math.min(changed, 1 + Math.min(least[i - 1][j], least[i][j - 1]));
                }
            }
        }
        return least[one.length()][other.length()];
    }

    private char verdict(int question) {
        Map<String, Character> lines = questions.get(question).lines;
        char kind = lines.getOrDefault(text, '-');
        boolean isNear = false;
        for (Map.Entry<String, Character> entry : lines.entrySet()) {
            if (entry.getValue() == 'a' && distance(entry.getKey(), text) <= entry.getKey().length() / 6) {
                isNear = true;
            }
        }
        return kind == 'n' ? 'w' : isNear ? 'r' : kind == 'p' ? 'p' : 'w';
    }

    char judge(int question) {
        index(in(question, questions));
        supported(!text.isEmpty());
        char verdict = verdict(question);
        text = "";
        return verdict;
    }

    int quota(int category, int quota) {
        argument(in(category, 5) && in(quota, 10));
        int sum = Arrays.stream(quotas).sum() - quotas[category] + quota;
        argument(sum <= 10);
        quotas[category] = quota;
        return sum;
    }

    private boolean mayFollow(List<Integer> order, int question) {
        if (order.contains(question) || isPacked(question)) {
            return false;
        }
        Question next = questions.get(question);
        int used = 0;
        for (int i = 0; i < order.size(); i++) {
            Question other = questions.get(order.get(i));
            used += other.category == next.category ? 1 : 0;
            boolean isNeighbour = i == order.size() - 1;
            if (other.theme == next.theme || repeats(order.get(i), question) >= 2
                || isNeighbour && other.category == next.category) {
                return false;
            }
        }
        return used < quotas[next.category];
    }

    private boolean complete(List<Integer> order, int places) {
        if (order.size() == places) {
            return true;
        }
        for (int i = 0; i < questions.size(); i++) {
            if (mayFollow(order, i)) {
                order.add(i);
                if (complete(order, places)) {
                    return true;
                }
                order.remove(order.size() - 1);
            }
        }
        return false;
    }

    int packet() {
        int places = Arrays.stream(quotas).sum();
        supported(places > 0);
        List<Integer> order = new ArrayList<>();
        if (!complete(order, places)) {
            throw new NoSuchElementException();
        }
        state(packets.size() < 4);
        packets.add(order);
        return packets.size() - 1;
    }

    int packed(int packet, int place) {
        index(in(packet, packets) && in(place, packets.get(packet)));
        return packets.get(packet).get(place);
    }

    int questions(int packet) {
        index(in(packet, packets));
        return packets.get(packet).size();
    }

    int team(int school) {
        argument(in(school, 99));
        state(pools.size() < 8);
        pools.add(0);
        return pools.size() - 1;
    }

    private int size(int team) {
        int found = 0;
        for (Player player : players) {
            found += player.team == team ? 1 : 0;
        }
        return found;
    }

    int player(int team, int reaction) {
        index(in(team, pools));
        argument(in(reaction, 99999));
        state(players.size() < 20 && size(team) < 4 && phase == '-');
        Player added = new Player();
        added.team = team;
        added.reaction = reaction;
        players.add(added);
        return players.size() - 1;
    }

    int know(int player, int category, int knowledge) {
        index(in(player, players));
        argument(in(category, 5) && in(knowledge, 9));
        int before = players.get(player).knowledge[category];
        players.get(player).knowledge[category] = knowledge;
        return before;
    }

    boolean see(int player, int question) {
        index(in(player, players) && in(question, questions));
        return players.get(player).seen.add(question);
    }

    int seen(int player) {
        index(in(player, players));
        return players.get(player).seen.size();
    }

    boolean canPlay(int team, int packet) {
        index(in(team, pools) && in(packet, packets));
        boolean isFit = size(team) > 0;
        for (Player player : players) {
            for (int question : packets.get(packet)) {
                isFit &= player.team != team || !player.seen.contains(question);
            }
        }
        return isFit;
    }

    int match(int team, int other, int packet) {
        index(in(team, pools) && in(other, pools) && in(packet, packets));
        argument(team != other);
        supported(canPlay(team, packet) && canPlay(other, packet));
        state(phase == '-' && matches.size() < 40);
        Match begun = new Match();
        begun.teams = new int[] {team, other};
        begun.packet = packet;
        matches.add(begun);
        go(0);
        return matches.size() - 1;
    }

    private Match last() {
        return matches.get(matches.size() - 1);
    }

    private void go(int next) {
        if (next >= packets.get(last().packet).size()) {
            finish();
            return;
        }
        phase = 't';
        place = next;
        words = 0;
        blocked = new HashSet<>();
        buzzes = new HashMap<>();
    }

    private void finish() {
        phase = '-';
        last().isOver = true;
        for (Player player : players) {
            if (last().side(player.team) >= 0) {
                player.seen.addAll(last().heard);
            }
        }
    }

    private int asked() {
        return packets.get(last().packet).get(place);
    }

    private int length() {
        return questions.get(asked()).words.size();
    }

    int read(int more) {
        state(phase == 't');
        argument(in(more - 1, 39));
        words = Math.min(length(), words + more);
        if (words > 0) {
            last().heard.add(asked());
        }
        return words;
    }

    int buzz(int player, int time) {
        state((phase == 't' || phase == 'b') && words > 0);
        index(in(player, players));
        argument(in(time, 9999999));
        int side = last().side(players.get(player).team);
        supported(side >= 0 && !blocked.contains(side) && !buzzes.containsKey(player));
        buzzes.put(player, time);
        phase = 'b';
        return buzzes.size();
    }

    int lock() {
        state(phase == 't' || phase == 'b');
        if (buzzes.isEmpty()) {
            throw new NoSuchElementException();
        }
        List<Integer> told = new ArrayList<>(buzzes.keySet());
        told.sort(Comparator.comparing((Integer p) -> buzzes.get(p) + players.get(p).reaction)
            .thenComparing(Comparator.naturalOrder()));
        answerer = told.get(0);
        isPrompted = false;
        buzzes = new HashMap<>();
        phase = 'a';
        return answerer;
    }

    char answer() {
        state(phase == 'a');
        supported(!text.isEmpty());
        char verdict = verdict(asked());
        text = "";
        if (verdict == 'p' && !isPrompted) {
            isPrompted = true;
            return 'p';
        }
        Event event = new Event();
        event.tossup = place;
        event.player = answerer;
        event.side = last().side(players.get(answerer).team);
        event.words = words;
        event.question = asked();
        event.isRight = verdict == 'r';
        event.isInPower = words < questions.get(asked()).mark;
        event.wouldCost = words < length() && !blocked.contains(1 - event.side);
        last().log.add(event);
        if (event.isRight) {
            phase = 'o';
            controls = event.side;
            parts = 0;
            isBounced = false;
            return 'r';
        }
        blocked.add(event.side);
        phase = 't';
        if (blocked.size() == 2) {
            go(place + 1);
        }
        return 'w';
    }

    int dead() {
        state((phase == 't' || phase == 'b') && words == length());
        go(place + 1);
        return phase == '-' ? -1 : place;
    }

    int part(boolean isRight) {
        state(phase == 'o');
        if (isRight) {
            Event event = new Event();
            event.isPart = true;
            event.tossup = place;
            event.side = isBounced ? 1 - controls : controls;
            last().log.add(event);
        }
        if (!isRight && !isBounced) {
            isBounced = true;
            return parts;
        }
        isBounced = false;
        parts++;
        if (parts == 3) {
            go(place + 1);
            return 3;
        }
        return parts;
    }

    int end() {
        state(phase == 't' && words == 0);
        finish();
        return last().heard.size();
    }

    char phase() {
        return phase;
    }

    int score(int match, boolean isOther) {
        index(in(match, matches));
        return matches.get(match).now(isOther ? 1 : 0);
    }

    int rulings(int match) {
        index(in(match, matches));
        return matches.get(match).rulings().size();
    }

    int ruling(int match, int ruling, char what) {
        index(in(match, matches) && in(ruling, matches.get(match).rulings()));
        argument("pwrq".indexOf(what) >= 0);
        Event event = matches.get(match).rulings().get(ruling);
        return what == 'p' ? event.player : what == 'w' ? event.words : what == 'q' ? event.question
            : event.isRight ? 1 : 0;
    }

    int protest(int ruling) {
        state(!matches.isEmpty());
        index(in(ruling, last().rulings()));
        supported(!last().protests.contains(ruling) && last().protests.size() < 4);
        last().protests.add(ruling);
        return last().protests.size();
    }

    int resolve(int match, int ruling, boolean isUpheld) {
        index(in(match, matches) && in(ruling, matches.get(match).rulings()));
        Match held = matches.get(match);
        supported(held.protests.contains(ruling) && !held.outcomes.containsKey(ruling) && held.isOver);
        held.outcomes.put(ruling, isUpheld);
        return held.now(0);
    }

    boolean matters(int match) {
        index(in(match, matches));
        Match held = matches.get(match);
        List<Integer> open = new ArrayList<>(held.protests);
        open.removeAll(held.outcomes.keySet());
        Set<Integer> winners = new HashSet<>();
        for (int bits = 0; bits < 1 << open.size(); bits++) {
            Set<Integer> upheld = held.upheld();
            for (int i = 0; i < open.size(); i++) {
                if ((bits >> i & 1) == 1) {
                    upheld.add(open.get(i));
                }
            }
            winners.add(Integer.signum(held.score(upheld, 0) - held.score(upheld, 1)));
        }
        return winners.size() > 1;
    }

    int scoreIf(int match, int rulings, boolean isOther) {
        index(in(match, matches));
        Match held = matches.get(match);
        Set<Integer> upheld = new HashSet<>();
        for (int i = 0; i < held.protests.size(); i++) {
            if ((rulings >> i & 1) == 1) {
                upheld.add(held.protests.get(i));
            }
        }
        return held.score(upheld, isOther ? 1 : 0);
    }

    private int wins(int team, boolean isByPool) {
        int found = 0;
        for (Match match : matches) {
            int side = match.side(team);
            boolean counts = match.isOver && side >= 0
                && (!isByPool || pools.get(match.teams[0]).equals(pools.get(match.teams[1])));
            if (counts) {
                found += match.now(side) > match.now(1 - side) ? 2 : match.now(side) == match.now(1 - side) ? 1 : 0;
            }
        }
        return found;
    }

    private Fraction points(int team) {
        int points = 0;
        int heard = 0;
        for (Match match : matches) {
            if (match.isOver && match.side(team) >= 0) {
                points += match.now(match.side(team));
                heard += match.heard.size();
            }
        }
        return heard == 0 ? new Fraction(0, 1) : new Fraction(points, heard);
    }

    private List<Integer> order(boolean isByPool) {
        List<Integer> order = new ArrayList<>();
        for (int i = 0; i < pools.size(); i++) {
            order.add(i);
        }
        order.sort((one, other) -> {
            int byWins = Integer.compare(wins(other, isByPool), wins(one, isByPool));
            return byWins != 0 ? byWins : points(other).minus(points(one)).upper.signum();
        });
        return order;
    }

    int ranked(int pool, int rank) {
        argument(in(pool, 3));
        List<Integer> order = order(true);
        order.removeIf(team -> pools.get(team) != pool);
        index(in(rank, order));
        return order.get(rank);
    }

    int pools(int count) {
        argument(in(count - 1, 3));
        state(phase == '-');
        List<Integer> order = order(false);
        int given = 0;
        int first = 0;
        for (int pool = 0; pool < count; pool++) {
            int left = order.size() - given;
            // As many as fit evenly into what is left, rounded up, are the first ones of one more.
            int share = (left + count - pool - 1) / (count - pool);
            for (int i = 0; i < share; i++) {
                pools.set(order.get(given), pool);
                given++;
            }
            first = pool == 0 ? share : first;
        }
        return first;
    }

    int poolOf(int team) {
        index(in(team, pools));
        return pools.get(team);
    }

    long rating(int team, boolean isLower) {
        index(in(team, pools));
        Fraction rating = ratings()[team];
        return (isLower ? rating.lower : rating.upper).longValueExact();
    }

    private Fraction[] ratings() {
        int size = pools.size();
        Fraction[][] rows = new Fraction[size][size + 1];
        for (int i = 0; i < size; i++) {
            Arrays.fill(rows[i], new Fraction(0, 1));
            rows[i][i] = new Fraction(2, 1);
            rows[i][size] = new Fraction(1, 1);
            for (Match match : matches) {
                int side = match.side(i);
                if (match.isOver && side >= 0) {
                    int other = match.teams[1 - side];
                    rows[i][i] = rows[i][i].minus(new Fraction(-1, 1));
                    rows[i][other] = rows[i][other].minus(new Fraction(1, 1));
                    int won = Integer.signum(match.now(side) - match.now(1 - side));
                    rows[i][size] = rows[i][size].minus(new Fraction(-won, 2));
                }
            }
        }
        Fraction[] solution = new Fraction[size];
        for (int pivot = 0; pivot < size; pivot++) {
            Fraction lead = rows[pivot][pivot];
            for (int j = 0; j <= size; j++) {
                rows[pivot][j] = rows[pivot][j].by(lead);
            }
            for (int i = 0; i < size; i++) {
                Fraction factor = rows[i][pivot];
                for (int j = 0; j <= size && i != pivot; j++) {
                    rows[i][j] = rows[i][j].minus(rows[pivot][j].times(factor));
                }
            }
        }
        for (int i = 0; i < size; i++) {
            solution[i] = rows[i][size];
        }
        return solution;
    }

    int count(int player, char what) {
        index(in(player, players));
        argument("ptnweh".indexOf(what) >= 0);
        int found = 0;
        for (Match match : matches) {
            if (what == 'h' && match.side(players.get(player).team) >= 0) {
                found += match.heard.size();
            }
            for (Event event : match.rulings()) {
                found += event.player == player && isCounted(event, what) ? 1 : 0;
            }
        }
        return found;
    }

    private boolean isCounted(Event event, char what) {
        switch (what) {
            case 'p':
                return event.isRight && event.isInPower;
            case 't':
                return event.isRight && !event.isInPower;
            case 'n':
                return !event.isRight && event.wouldCost;
            case 'w':
                return !event.isRight && !event.wouldCost;
            case 'e':
                Question question = questions.get(event.question);
                int known = players.get(event.player).knowledge[question.category];
                return event.isRight && event.words < question.words.size() * (9 - known) / 12;
            default:
                return false;
        }
    }

    boolean isSuspect(int player) {
        index(in(player, players));
        int early = count(player, 'e');
        return early >= 2 && early > (count(player, 'p') + count(player, 't')) / 2.0;
    }

    int best(int player, int question) {
        index(in(player, players) && in(question, questions));
        Question asked = questions.get(question);
        int n = asked.words.size();
        supported(n > 0);
        int best = 0;
        long greatest = 0;
        for (int k = n; k > 0; k--) {
            long c = Math.min((long) players.get(player).knowledge[asked.category] * k, 9L * n);
            long worth = (2L * n - k) * (c * (k < asked.mark ? 15 : 10) - (10L * n - c) * (k == n ? 0 : 5));
            if (best == 0 || worth >= greatest) {
                best = k;
                greatest = worth;
            }
        }
        return best;
    }

    float share() {
        int heard = 0;
        int right = 0;
        for (Match match : matches) {
            heard += match.heard.size();
            for (Event event : match.rulings()) {
                right += event.isRight ? 1 : 0;
            }
        }
        if (heard == 0) {
            throw new ArithmeticException();
        }
        return (float) right / (float) heard;
    }

    double meanWords() {
        int sum = 0;
        int right = 0;
        for (Match match : matches) {
            for (Event event : match.rulings()) {
                right += event.isRight ? 1 : 0;
                sum += event.isRight ? event.words : 0;
            }
        }
        if (right == 0) {
            throw new ArithmeticException();
        }
        return (double) sum / (double) right;
    }

    boolean isSound() {
        return true;
    }

    static final class Fraction {
        final BigInteger upper;
        final BigInteger lower;

        Fraction(long upper, long lower) {
            this(BigInteger.valueOf(upper), BigInteger.valueOf(lower));
        }

        Fraction(BigInteger upper, BigInteger lower) {
            BigInteger divisor = upper.gcd(lower);
            if (lower.signum() < 0) {
                divisor = divisor.negate();
            }
            this.upper = upper.divide(divisor);
            this.lower = lower.divide(divisor);
        }

        Fraction minus(Fraction other) {
            return new Fraction(upper.multiply(other.lower).subtract(other.upper.multiply(lower)),
                lower.multiply(other.lower));
        }

        Fraction times(Fraction other) {
            return new Fraction(upper.multiply(other.upper), lower.multiply(other.lower));
        }

        Fraction by(Fraction other) {
            return new Fraction(upper.multiply(other.lower), lower.multiply(other.upper));
        }
    }
}
