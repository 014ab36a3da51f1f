import java.lang.reflect.Array;
import java.lang.reflect.Field;
import java.util.function.Supplier;

/** Promises 36 to 45, sentence by sentence: ranks, pools, ratings, counts and figures. */
final class StandingEdges extends Edges {
    private StandingEdges() {
    }

    /** So many teams of one player, whose number is that of the team; four packets of so many tossups of 4 words, mark 2. */
    private static TossupHall hall(int teams, int tossups) {
        TossupHall hall = new TossupHall();
        for (int i = 0; i < 4 * tossups; i++) {
            Halls.question(hall, i % 2, i, 4);
            hall.power(i, 2);
            Halls.line(hall, i, 'a', "yes");
        }
        for (int i = 0; i < 4; i++) {
            int ofFirst = (tossups + 1 - i % 2) / 2;
            hall.quota(0, ofFirst);
            hall.quota(1, tossups - ofFirst);
            hall.packet();
        }
        for (int i = 0; i < teams; i++) {
            Halls.team(hall, i);
        }
        return hall;
    }

    /**
     * A match of the players of two teams: 'P' is right in power, 'T' right otherwise, without a part of the bonus,
     * 'B' right otherwise with all parts, 'W' wrong with -5 and dead; small letters are the other team's; 'd' is dead.
     */
    private static TossupHall match(TossupHall hall, int team, int other, int packet, String plan) {
        hall.match(team, other, packet);
        for (char tossup : plan.toCharArray()) {
            play(hall, Character.isUpperCase(tossup) ? team : other, Character.toLowerCase(tossup));
        }
        if (hall.phase() == 't') {
            hall.end();
        }
        return hall;
    }

    private static void play(TossupHall hall, int player, char what) {
        if (what == 'p' || what == 't' || what == 'b') {
            played(hall, what == 'p' ? 1 : 2, player, "yes");
            Halls.parts(hall, what == 'b' ? "111" : "000000");
            return;
        }
        if (what == 'w') {
            played(hall, 1, player, "no");
        }
        Halls.die(hall);
    }

    private static void ranks(String what, TossupHall hall, int pool, int... due) {
        for (int i = 0; i < due.length; i++) {
            int rank = i;
            answers(what + ", rank " + i, due[i], hall, h -> h.ranked(pool, rank));
        }
        refuses(what + ", no rank more", INDEX, hall, h -> h.ranked(pool, due.length));
    }

    private static TossupHall teams(int teams) {
        TossupHall hall = new TossupHall();
        for (int i = 0; i < teams; i++) {
            hall.team(0);
        }
        return hall;
    }

    private static TossupHall pooled(TossupHall hall, int pools) {
        hall.pools(pools);
        return hall;
    }

    // ---- promise 36

    @Promise(value = 36, says = "Throws IllegalArgumentException if there is no such pool")
    private static void p36NoPool() {
        beyond("pool", 0, 3, ARGUMENT, teams(8), (h, v) -> h.ranked(v, 0));
        beyond("pool, no teams", 0, 3, ARGUMENT, new TossupHall(), (h, v) -> h.ranked(v, 0));
    }

    @Promise(value = 36, says = "pool: the pool, 0 to 3")
    private static void p36Pool() {
        range("pool", 0, 3, ARGUMENT, () -> pooled(teams(4), 4), (h, v) -> h.ranked(v, 0));
    }

    @Promise(value = 36, says = "Throws IndexOutOfBoundsException if there is no such rank")
    private static void p36NoRank() {
        range("rank", 0, 7, INDEX, () -> teams(8), (h, v) -> h.ranked(0, v));
        range("rank", 0, 1, INDEX, () -> pooled(teams(8), 4), (h, v) -> h.ranked(3, v));
        for (int i = 0; i < 4; i++) {
            int pool = i;
            beyond("rank of no teams", 0, -1, INDEX, new TossupHall(), (h, v) -> h.ranked(pool, v));
        }
        beyond("rank of an empty pool", 0, -1, INDEX, teams(8), (h, v) -> h.ranked(1, v));
    }

    @Promise(value = 36, says = "rank: the rank, from 0")
    private static void p36FromZero() {
        ranks("pool 0", pooled(teams(7), 3), 0, 0, 1, 2);
        ranks("pool 1", pooled(teams(7), 3), 1, 3, 4);
        ranks("pool 3", pooled(teams(7), 3), 3);
    }

    @Promise(value = 36, says = ORDER)
    private static void p36Order() {
        refuses("no pool, no rank", ARGUMENT, teams(8), h -> h.ranked(4, 8));
        refuses("no pool, no rank, below", ARGUMENT, teams(8), h -> h.ranked(-1, -1));
    }

    @Promise(value = 36, says = "Returns the team.")
    private static void p36Team() {
        ranks("one team", teams(1), 0, 0);
        ranks("eight teams", teams(8), 0, 0, 1, 2, 3, 4, 5, 6, 7);
    }

    @Promise(value = 36, says = "Returns the team at a rank of a pool.")
    private static void p36OfAPool() {
        TossupHall hall = match(hall(4, 1), 3, 2, 0, "P");
        ranks("all", hall, 0, 3, 0, 1, 2);
        hall.pools(2);
        ranks("the first pool", hall, 0, 3, 0);
        ranks("the second pool", hall, 1, 1, 2);
    }

    @Promise(value = 36, says = "are ranked by wins, counting matches against teams now in the same pool alone, "
        + "2 for a win and 1 for equal scores")
    private static void p36Wins() {
        TossupHall hall = match(match(hall(6, 1), 1, 2, 0, ""), 4, 5, 0, "w");
        ranks("a win, equal scores, none", hall, 0, 4, 1, 2, 0, 3, 5);
        match(hall, 2, 1, 0, "");
        ranks("two of equal scores are a win", hall, 0, 1, 2, 4, 0, 3, 5);
        match(hall, 4, 0, 1, "");
        ranks("three are more than two", hall, 0, 4, 1, 2, 0, 3, 5);
    }

    @Promise(value = 36, says = "counting matches against teams now in the same pool alone")
    private static void p36NowInTheSamePool() {
        TossupHall hall = match(match(match(hall(4, 1), 3, 2, 0, "B"), 1, 0, 0, "T"), 1, 0, 1, "");
        ranks("all in one", hall, 0, 1, 3, 0, 2);
        hall.pools(2);
        ranks("no match between them: by the points of all", hall, 0, 3, 1);
        ranks("the second pool", hall, 1, 0, 2);
        match(hall, 1, 3, 2, "w");
        ranks("a win against a team of the pool, with fewer points", hall, 0, 1, 3);
        match(match(match(hall, 3, 2, 3, ""), 3, 2, 3, ""), 3, 2, 3, "");
        ranks("equal scores against one of another pool do not count", hall, 0, 1, 3);
        hall.pools(1);
        ranks("matches ahead of the pool count", hall, 0, 3, 1, 2, 0);
    }

    @Promise(value = 36, says = "then by points for each tossup heard in all matches, in fractions, 0 without one, then by rising numbers.")
    private static void p36Points() {
        TossupHall thirds = match(match(hall(4, 5), 0, 2, 0, "BPTdd"), 1, 3, 0, "Bdd");
        ranks("65 in 5 tossups, 40 in 3", thirds, 0, 1, 0, 2, 3);
        TossupHall alike = match(match(hall(4, 3), 0, 2, 0, "Td"), 1, 3, 0, "Td");
        ranks("5 for each", alike, 0, 0, 1, 2, 3);
        TossupHall even = match(match(hall(4, 3), 0, 2, 0, "PPd"), 1, 3, 0, "T");
        ranks("30 in 3 tossups, 10 in 1", even, 0, 0, 1, 2, 3);
        TossupHall less = match(match(hall(4, 3), 0, 2, 0, "PTd"), 1, 3, 0, "T");
        ranks("25 in 3 tossups, 10 in 1", less, 0, 1, 0, 2, 3);
        TossupHall below = match(match(hall(6, 3), 0, 2, 0, "w"), 1, 3, 0, "wd");
        ranks("0 without one, less than 0 behind it", below, 0, 0, 1, 4, 5, 3, 2);
        TossupHall matches = match(match(match(hall(4, 3), 0, 2, 0, "PP"), 0, 3, 1, "dd"), 1, 3, 0, "T");
        match(matches, 1, 2, 1, "");
        ranks("30 in 4 tossups of two matches, 10 in 1", matches, 0, 1, 0, 2, 3);
    }

    @Promise(value = 36, says = "A match that ended counts, with its scores as they are now, with protests that were upheld.")
    private static void p36Ended() {
        TossupHall hall = hall(2, 1);
        hall.match(0, 1, 0);
        played(hall, 1, 1, "yes");
        ranks("the match goes on", hall, 0, 0, 1);
        Halls.parts(hall, "111");
        ranks("it ended", hall, 0, 1, 0);
        hall.protest(0);
        ranks("a protest", hall, 0, 1, 0);
        hall.resolve(0, 0, true);
        ranks("it was upheld", hall, 0, 0, 1);
    }

    @Promise(value = 36, says = "A tossup counts as heard by both teams, if a word of it was read.")
    private static void p36Heard() {
        TossupHall hall = match(match(hall(4, 3), 0, 2, 0, "P"), 1, 3, 0, "PP");
        hall.match(0, 1, 1);
        hall.end();
        ranks("no word of the second one was read", hall, 0, 0, 1, 2, 3);
        TossupHall word = match(match(hall(4, 3), 0, 2, 0, "Pd"), 1, 3, 0, "PP");
        ranks("words of the second one were read", word, 0, 1, 0, 2, 3);
        TossupHall both = match(match(hall(4, 3), 0, 2, 0, "Pt"), 1, 3, 0, "PTt");
        ranks("by the team that did not answer, too", both, 0, 1, 0, 2, 3);
    }

    // ---- promise 37

    @Promise(value = 37, says = "Throws IllegalArgumentException if it is out of range")
    private static void p37OutOfRange() {
        beyond("pools", 1, 4, ARGUMENT, pooled(teams(8), 2), (h, v) -> h.pools(v));
        beyond("pools of no teams", 1, 4, ARGUMENT, new TossupHall(), (h, v) -> h.pools(v));
    }

    @Promise(value = 37, says = "pools: how many, 1 to 4")
    private static void p37Pools() {
        range("pools", 1, 4, ARGUMENT, () -> teams(8), (h, v) -> h.pools(v));
        range("pools of one team", 1, 4, ARGUMENT, () -> teams(1), (h, v) -> h.pools(v));
        range("pools of no teams", 1, 4, ARGUMENT, TossupHall::new, (h, v) -> h.pools(v));
    }

    @Promise(value = 37, says = "Throws IllegalStateException if a match goes on")
    private static void p37WhileAMatchGoesOn() {
        TossupHall hall = Halls.begun(2);
        refuses("ahead of the first word", STATE, hall, h -> h.pools(2));
        hall.read(1);
        refuses("in a tossup", STATE, hall, h -> h.pools(1));
        hall.buzz(0, 0);
        refuses("buzzes are told", STATE, hall, h -> h.pools(2));
        hall.lock();
        refuses("somebody answers", STATE, hall, h -> h.pools(2));
        Halls.answer(hall, "yes");
        refuses("in a bonus", STATE, hall, h -> h.pools(4));
        Halls.parts(hall, "111");
        hall.end();
        answers("it ended", 1, hall, h -> h.pools(2));
    }

    @Promise(value = 37, says = ORDER)
    private static void p37Order() {
        refuses("too few, a match goes on", ARGUMENT, Halls.begun(1), h -> h.pools(0));
        refuses("too many, a match goes on", ARGUMENT, Halls.begun(1), h -> h.pools(5));
    }

    @Promise(value = 37, says = "Returns how many teams the first one has.")
    private static void p37HowMany() {
        int[][] due = {{0, 0, 0, 0}, {1, 1, 1, 1}, {2, 1, 1, 1}, {3, 2, 1, 1}, {4, 2, 2, 1}, {5, 3, 2, 2}, {6, 3, 2, 2},
            {7, 4, 3, 2}, {8, 4, 3, 2}};
        for (int teams = 0; teams <= 8; teams++) {
            for (int pools = 1; pools <= 4; pools++) {
                int told = pools;
                answers(teams + " teams in " + pools, due[teams][pools - 1], teams(teams), h -> h.pools(told));
            }
        }
    }

    private static void pools(String what, TossupHall hall, int... due) {
        for (int i = 0; i < due.length; i++) {
            int team = i;
            answers(what + ", team " + i, due[i], hall, h -> h.poolOf(team));
        }
    }

    @Promise(value = 37, says = "and parted into so many pools as told, the first ones of one more team if they cannot all be alike.")
    private static void p37Parted() {
        pools("8 in 1", pooled(teams(8), 1), 0, 0, 0, 0, 0, 0, 0, 0);
        pools("8 in 2", pooled(teams(8), 2), 0, 0, 0, 0, 1, 1, 1, 1);
        pools("8 in 3", pooled(teams(8), 3), 0, 0, 0, 1, 1, 1, 2, 2);
        pools("8 in 4", pooled(teams(8), 4), 0, 0, 1, 1, 2, 2, 3, 3);
        pools("7 in 3", pooled(teams(7), 3), 0, 0, 0, 1, 1, 2, 2);
        pools("7 in 4", pooled(teams(7), 4), 0, 0, 1, 1, 2, 2, 3);
        pools("5 in 4", pooled(teams(5), 4), 0, 0, 1, 2, 3);
        pools("3 in 4", pooled(teams(3), 4), 0, 1, 2);
        pools("1 in 4", pooled(teams(1), 4), 0);
    }

    @Promise(value = 37, says = "Makes the pools anew.")
    private static void p37Anew() {
        TossupHall hall = pooled(teams(8), 4);
        pools("once more", pooled(hall, 2), 0, 0, 0, 0, 1, 1, 1, 1);
        pools("all in one", pooled(hall, 1), 0, 0, 0, 0, 0, 0, 0, 0);
    }

    @Promise(value = 37, says = "To make pools anew, the teams of all pools together are ranked likewise, all matches counting")
    private static void p37AllMatchesCount() {
        TossupHall hall = match(hall(4, 1), 3, 0, 0, "P");
        pools("by wins", pooled(hall, 2), 0, 1, 1, 0);
        match(hall, 1, 0, 1, "P");
        match(hall, 1, 3, 2, "P");
        match(hall, 2, 3, 3, "P");
        pools("wins against other pools, too", pooled(hall, 4), 3, 0, 1, 2);
        match(hall, 2, 0, 2, "");
        match(hall, 2, 0, 2, "");
        match(hall, 2, 0, 2, "");
        pools("equal scores against another pool", pooled(hall, 3), 1, 0, 0, 2);
    }

    // ---- promise 38

    @Promise(value = 38, says = "Throws IndexOutOfBoundsException if there is no such team")
    private static void p38Team() {
        range("team", 0, 7, INDEX, () -> teams(8), (h, v) -> h.poolOf(v));
        range("team", 0, 0, INDEX, () -> teams(1), (h, v) -> h.poolOf(v));
        beyond("team, none", 0, -1, INDEX, new TossupHall(), (h, v) -> h.poolOf(v));
    }

    @Promise(value = 38, says = "Returns the pool.")
    private static void p38Pool() {
        pools("the least and the greatest", pooled(teams(4), 4), 0, 1, 2, 3);
    }

    @Promise(value = 38, says = "Returns the pool of a team.")
    private static void p38AsItWasMade() {
        TossupHall hall = match(pooled(hall(2, 1), 2), 1, 0, 0, "P");
        pools("matches alone change nothing", hall, 0, 1);
        pools("made anew", pooled(hall, 2), 1, 0);
    }

    @Promise(value = 38, says = "Teams of a pool, 0 to 3, all in 0 at first")
    private static void p38AtFirst() {
        pools("at first", teams(8), 0, 0, 0, 0, 0, 0, 0, 0);
        TossupHall later = pooled(teams(4), 4);
        answers("a team that comes later", 4, later, h -> h.team(0));
        answers("is in 0", 0, later, h -> h.poolOf(4));
        ranks("with the one that is there", later, 0, 0, 4);
    }

    // ---- promise 39

    @Promise(value = 39, says = "Throws IndexOutOfBoundsException if there is no such team")
    private static void p39Team() {
        for (boolean isLower : new boolean[] {false, true}) {
            range("team", 0, 7, INDEX, () -> teams(8), (h, v) -> h.rating(v, isLower));
            range("team", 0, 0, INDEX, () -> teams(1), (h, v) -> h.rating(v, isLower));
            beyond("team, none", 0, -1, INDEX, new TossupHall(), (h, v) -> h.rating(v, isLower));
        }
    }

    private static void rated(String what, TossupHall hall, int team, long upper, long lower) {
        answers(what + ", team " + team + ", the upper number", upper, hall, h -> h.rating(team, false));
        answers(what + ", team " + team + ", the lower number", lower, hall, h -> h.rating(team, true));
    }

    @Promise(value = 39, says = "Returns the number.")
    private static void p39Number() {
        for (int i = 0; i < 8; i++) {
            rated("no match", teams(8), i, 1, 2);
        }
    }

    @Promise(value = 39, says = "Returns a number of the rating of a team.")
    private static void p39Ended() {
        TossupHall hall = hall(2, 1);
        hall.match(0, 1, 0);
        played(hall, 1, 0, "yes");
        rated("the match goes on", hall, 0, 1, 2);
        Halls.parts(hall, "111");
        rated("it ended", hall, 0, 5, 8);
        hall.protest(0);
        hall.resolve(0, 0, true);
        rated("a protest was upheld", hall, 0, 3, 8);
        rated("a protest was upheld", hall, 1, 5, 8);
    }

    @Promise(value = 39, says = "The rating of a team is the solution of: (2 + its matches) times its rating, less the sum of the ratings "
        + "of its opponents, match by match, is 1 and half of its wins less its losses.")
    private static void p39Solution() {
        TossupHall one = match(hall(3, 1), 0, 1, 0, "P");
        rated("one match", one, 0, 5, 8);
        rated("one match", one, 1, 3, 8);
        rated("no match", one, 2, 1, 2);
        TossupHall two = match(match(hall(2, 1), 0, 1, 0, "P"), 1, 0, 1, "");
        rated("a win, then equal scores", two, 0, 7, 12);
        rated("a loss, then equal scores", two, 1, 5, 12);
        TossupHall many = match(match(hall(2, 1), 0, 1, 0, "P"), 1, 0, 1, "p");
        for (int i = 0; i < 38; i++) {
            match(many, 0, 1, 2, "");
        }
        rated("two wins of 40 matches", many, 0, 21, 41);
        rated("two losses of 40 matches", many, 1, 20, 41);
    }

    @Promise(value = 39, says = "Ratings are fractions in lowest terms.")
    private static void p39LowestTerms() {
        TossupHall wins = match(match(hall(2, 1), 0, 1, 0, "P"), 0, 1, 1, "P");
        rated("4/6 is", wins, 0, 2, 3);
        rated("2/6 is", wins, 1, 1, 3);
        TossupHall equal = match(hall(2, 1), 0, 1, 0, "");
        rated("4/8 is", equal, 0, 1, 2);
        rated("4/8 is", equal, 1, 1, 2);
    }

    // ---- promise 40

    @Promise(value = 40, says = "Throws IndexOutOfBoundsException if there is no such player")
    private static void p40Player() {
        Supplier<TossupHall> twenty = () -> {
            TossupHall hall = teams(5);
            for (int i = 0; i < 20; i++) {
                hall.player(i / 4, 0);
            }
            return hall;
        };
        for (char letter : "ptnweh".toCharArray()) {
            range("player", 0, 19, INDEX, twenty, (h, v) -> h.count(v, letter));
            range("player", 0, 3, INDEX, () -> Halls.ready(1), (h, v) -> h.count(v, letter));
            beyond("player, none", 0, -1, INDEX, teams(8), (h, v) -> h.count(v, letter));
        }
    }

    @Promise(value = 40, says = "Throws IllegalArgumentException if there is no such letter")
    private static void p40NoLetter() {
        letters("letter", "ptnweh", ARGUMENT, () -> Halls.ready(1), (h, v) -> h.count(0, (char) v));
    }

    @Promise(value = 40, says = ORDER)
    private static void p40Order() {
        refuses("no player, no letter", INDEX, Halls.ready(1), h -> h.count(4, 'x'));
        refuses("no player, no letter, below", INDEX, Halls.ready(1), h -> h.count(-1, 'x'));
    }

    private static void counts(String what, TossupHall hall, int player, int... due) {
        for (int i = 0; i < due.length; i++) {
            char letter = "ptnweh".charAt(i);
            answers(what + ", player " + player + ", '" + letter + "'", due[i], hall, h -> h.count(player, letter));
        }
    }

    @Promise(value = 40, says = "what: 'p' right in power, 't' right otherwise, 'n' wrong with -5, 'w' wrong otherwise, 'e' early, "
        + "'h' tossups heard by the team, also ahead of the player's coming")
    private static void p40Letters() {
        counts("nothing", Halls.ready(1), 0, 0, 0, 0, 0, 0, 0);
        counts("behind 1 word of a mark of 2", ended(played(Halls.begun(1), 1, 0, "yes")), 0, 1, 0, 0, 0, 1, 1);
        counts("behind 2 words of a mark of 2", ended(played(Halls.begun(1), 2, 0, "yes")), 0, 0, 1, 0, 0, 1, 1);
        counts("behind 3 words of a mark of 2", ended(played(Halls.begun(1), 3, 0, "yes")), 0, 0, 1, 0, 0, 0, 1);
        counts("wrong behind 3 words", ended(played(Halls.begun(1), 3, 0, "no")), 0, 0, 0, 1, 0, 0, 1);
        counts("wrong behind all words", ended(played(Halls.begun(1), 4, 0, "no")), 0, 0, 0, 0, 1, 0, 1);
        TossupHall both = played(played(Halls.begun(1), 1, 0, "no"), 0, 2, "no");
        counts("the first to be wrong", both, 0, 0, 0, 1, 0, 0, 1);
        counts("wrong, as the other team was blocked", both, 2, 0, 0, 0, 1, 0, 1);
        counts("a player of the team", both, 1, 0, 0, 0, 0, 0, 1);
    }

    /** The hall behind the end of a match of one tossup, behind an answer to it. */
    private static TossupHall ended(TossupHall hall) {
        if (hall.phase() == 'o') {
            Halls.parts(hall, "111");
        } else {
            Halls.die(hall);
        }
        return hall;
    }

    @Promise(value = 40, says = "'h' tossups heard by the team, also ahead of the player's coming")
    private static void p40Heard() {
        TossupHall hall = match(match(hall(3, 3), 0, 1, 0, "dd"), 1, 0, 1, "PTw");
        answers("the player who comes then", 3, hall, h -> h.player(0, 0));
        answers("heard by the team", 5, hall, h -> h.count(3, 'h'));
        answers("by the one who was there", 5, hall, h -> h.count(0, 'h'));
        answers("by a team that did not play", 0, hall, h -> h.count(2, 'h'));
        match(hall, 2, 1, 2, "");
        answers("no word was read", 0, hall, h -> h.count(2, 'h'));
    }

    @Promise(value = 40, says = "Returns the number.")
    private static void p40Number() {
        TossupHall right = Halls.begun(10);
        TossupHall wrong = Halls.begun(10);
        for (int i = 0; i < 10; i++) {
            played(right, 1, 0, "yes");
            Halls.parts(right, "111");
            played(wrong, 4, 2, "no");
            played(wrong, 0, 0, "no");
        }
        counts("all right in power", right, 0, 10, 0, 0, 0, 10, 10);
        counts("all wrong", wrong, 2, 0, 0, 0, 10, 0, 10);
    }

    @Promise(value = 40, says = "Returns a number of a player, of all matches, rulings as they were given.")
    private static void p40AsGiven() {
        TossupHall hall = match(match(hall(2, 3), 0, 1, 0, "PTW"), 1, 0, 1, "pwt");
        counts("of two matches", hall, 0, 2, 2, 2, 0, 4, 6);
        hall.protest(0);
        hall.resolve(1, 0, true);
        hall.protest(1);
        hall.resolve(1, 1, true);
        counts("as they were given", hall, 0, 2, 2, 2, 0, 4, 6);
        hall.power(0, 0);
        counts("by the mark as it was", hall, 0, 2, 2, 2, 0, 4, 6);
    }

    /** A match on a question of so many words, of category 5, which player 0 had right behind some of them. */
    private static TossupHall early(int words, int behind) {
        TossupHall hall = new TossupHall();
        Halls.question(hall, 5, 0, words);
        Halls.line(hall, 0, 'a', "yes");
        hall.quota(5, 1);
        hall.packet();
        Halls.team(hall, 0);
        Halls.team(hall, 0);
        hall.match(0, 1, 0);
        return ended(played(hall, behind, 0, "yes"));
    }

    @Promise(value = 40, says = "A right buzz of a player is early, if it came behind fewer words than w * (9 - k) / 12, cut, "
        + "w being how many words the question has, k what the player now knows of its category.")
    private static void p40Early() {
        int[][] rows = {{4, 0, 3}, {40, 0, 30}, {40, 8, 3}, {5, 2, 2}, {3, 5, 1}, {24, 3, 12}, {39, 1, 26}, {40, 1, 26}};
        for (int[] row : rows) {
            for (int i = -1; i <= 0; i++) {
                int behind = row[2] + i;
                if (behind > 0) {
                    TossupHall hall = early(row[0], behind);
                    hall.know(0, 5, row[1]);
                    hall.know(0, 4, 9 - row[1]);
                    String what = "behind " + behind + " of " + row[0] + " words, knowledge " + row[1];
                    answers(what, i < 0 ? 1 : 0, hall, h -> h.count(0, 'e'));
                }
            }
        }
        answers("the only word", 0, early(1, 1), h -> h.count(0, 'e'));
        TossupHall all = early(40, 1);
        answers("knows nothing", 1, all, h -> h.count(0, 'e'));
        all.know(0, 5, 9);
        answers("knows all now", 0, all, h -> h.count(0, 'e'));
        all.know(0, 5, 8);
        answers("knows less now", 1, all, h -> h.count(0, 'e'));
        counts("wrong is not early", ended(played(Halls.begun(1), 1, 0, "no")), 0, 0, 0, 1, 0, 0, 1);
    }

    // ---- promise 41

    @Promise(value = 41, says = "Throws IndexOutOfBoundsException if there is no such player")
    private static void p41Player() {
        Supplier<TossupHall> twenty = () -> {
            TossupHall hall = teams(8);
            for (int i = 0; i < 20; i++) {
                hall.player(i % 8, 0);
            }
            return hall;
        };
        range("player", 0, 19, INDEX, twenty, (h, v) -> bit(h.isSuspect(v)));
        range("player", 0, 3, INDEX, () -> Halls.ready(1), (h, v) -> bit(h.isSuspect(v)));
        beyond("player, none", 0, -1, INDEX, teams(8), (h, v) -> bit(h.isSuspect(v)));
    }

    /** Player 0 had so many tossups right early, so many behind the last word, and so many wrong. */
    private static TossupHall suspect(int early, int late, int wrong) {
        TossupHall hall = Halls.begun(10);
        for (int i = 0; i < early + late; i++) {
            played(hall, i < early ? 1 : 4, 0, "yes");
            Halls.parts(hall, "000000");
        }
        for (int i = 0; i < wrong; i++) {
            played(hall, 1, 0, "no");
            Halls.die(hall);
        }
        return hall;
    }

    @Promise(value = 41, says = "Returns whether it is so.")
    private static void p41IsSo() {
        answers("no answers", 0, suspect(0, 0, 0), h -> bit(h.isSuspect(0)));
        answers("wrong ones alone", 0, suspect(0, 0, 9), h -> bit(h.isSuspect(0)));
        answers("another player", 0, suspect(2, 0, 0), h -> bit(h.isSuspect(1)));
    }

    @Promise(value = 41, says = "Someone is suspect with 2 or more, which are more than half of their right buzzes.")
    private static void p41Terms() {
        int[][] rows = {{1, 0, 0}, {2, 0, 1}, {2, 1, 1}, {2, 2, 0}, {3, 2, 1}, {3, 3, 0}, {3, 4, 0}, {5, 4, 1}, {5, 5, 0},
            {10, 0, 1}, {0, 2, 0}};
        for (int[] row : rows) {
            String what = row[0] + " early ones and " + row[1] + " others";
            answers(what, row[2], suspect(row[0], row[1], 0), h -> bit(h.isSuspect(0)));
        }
        answers("wrong ones do not count", 1, suspect(2, 1, 7), h -> bit(h.isSuspect(0)));
    }

    @Promise(value = 41, says = "Returns whether a player is suspect.")
    private static void p41ByWhatTheyNowKnow() {
        TossupHall hall = suspect(2, 0, 0);
        hall.know(0, 0, 9);
        answers("one of them is no longer early", 0, hall, h -> bit(h.isSuspect(0)));
        hall.know(0, 0, 0);
        answers("it is again", 1, hall, h -> bit(h.isSuspect(0)));
    }

    // ---- promise 42

    @Promise(value = 42, says = "Throws IndexOutOfBoundsException if there is no such player or question")
    private static void p42PlayerAndQuestion() {
        Supplier<TossupHall> full = () -> {
            TossupHall hall = teams(5);
            for (int i = 0; i < 20; i++) {
                hall.player(i / 4, 0);
            }
            for (int i = 0; i < 24; i++) {
                Halls.question(hall, 0, i, 1);
            }
            return hall;
        };
        range("player", 0, 19, INDEX, full, (h, v) -> h.best(v, 0));
        range("question", 0, 23, INDEX, full, (h, v) -> h.best(0, v));
        range("player", 0, 3, INDEX, () -> Halls.ready(1), (h, v) -> h.best(v, 0));
        range("question", 0, 0, INDEX, () -> Halls.ready(1), (h, v) -> h.best(0, v));
        beyond("player, none", 0, -1, INDEX, teams(8), (h, v) -> h.best(v, 0));
        TossupHall none = teams(1);
        none.player(0, 0);
        beyond("question, none", 0, -1, INDEX, none, (h, v) -> h.best(0, v));
    }

    /** A player of this knowledge, and a question of so many words and this mark. */
    private static TossupHall asked(int words, int mark, int knowledge) {
        TossupHall hall = teams(1);
        hall.player(0, 0);
        hall.know(0, 3, knowledge);
        Halls.question(hall, 3, 0, words);
        hall.power(0, mark);
        return hall;
    }

    @Promise(value = 42, says = "Throws UnsupportedOperationException if it has no words")
    private static void p42NoWords() {
        refuses("no words", UNSUPPORTED, asked(0, 0, 0), h -> h.best(0, 0));
        refuses("no words, a mark", UNSUPPORTED, asked(0, 40, 9), h -> h.best(0, 0));
        answers("one word", 1, asked(1, 0, 0), h -> h.best(0, 0));
    }

    @Promise(value = 42, says = ORDER)
    private static void p42Order() {
        refuses("no player, no words", INDEX, asked(0, 0, 0), h -> h.best(1, 0));
        refuses("no question, so that no words", INDEX, asked(0, 0, 0), h -> h.best(0, 1));
    }

    @Promise(value = 42, says = "Returns how many words.")
    private static void p42HowMany() {
        answers("the least", 1, asked(1, 40, 9), h -> h.best(0, 0));
        answers("the greatest", 40, asked(40, 0, 0), h -> h.best(0, 0));
    }

    @Promise(value = 42, says = "Returns the word at which a player should buzz.")
    private static void p42Player() {
        answers("behind the mark of 4 words", 4, asked(4, 3, 9), h -> h.best(0, 0));
        answers("the last word in power", 3, asked(4, 4, 9), h -> h.best(0, 0));
        answers("all words in power", 4, asked(4, 5, 9), h -> h.best(0, 0));
        answers("knows less", 4, asked(4, 4, 0), h -> h.best(0, 0));
    }

    @Promise(value = 42, says = "is worth, with c = knowledge times k, at most 9 n, the number (2 n - k) (c (15 in power, else 10) - "
        + "(10 n - c) (5, or 0 for k = n)); the best k is that with the greatest worth, from 1 on, of several the least.")
    private static void p42Terms() {
        for (int n = 1; n <= 40; n++) {
            for (int knowledge = 0; knowledge <= 9; knowledge++) {
                TossupHall hall = asked(n, 0, knowledge);
                for (int mark = 0; mark <= 40; mark++) {
                    hall.power(0, mark);
                    String what = n + " words, mark " + mark + ", knowledge " + knowledge;
                    answers(what, bestOf(n, mark, knowledge), hall, h -> h.best(0, 0));
                }
            }
        }
    }

    private static int bestOf(int n, int mark, int knowledge) {
        int best = n;
        for (int k = n; k >= 1; k--) {
            if (worth(n, mark, knowledge, k) >= worth(n, mark, knowledge, best)) {
                best = k;
            }
        }
        return best;
    }

    private static long worth(int n, int mark, int knowledge, int k) {
        long c = Math.min(knowledge * k, 9 * n);
        return (2 * n - k) * (c * (k < mark ? 15 : 10) - (10 * n - c) * (k == n ? 0 : 5));
    }

    // ---- promise 43

    private static void shares(String what, float due, TossupHall hall) {
        answers(what, Float.floatToIntBits(due), hall, h -> Float.floatToIntBits(h.share()));
    }

    @Promise(value = 43, says = "Throws ArithmeticException if none was heard")
    private static void p43NoneHeard() {
        refuses("no match", ARITHMETIC, Halls.ready(1), h -> (long) h.share());
        refuses("no word was read", ARITHMETIC, Halls.emptyMatches(40), h -> (long) h.share());
        refuses("a match begins", ARITHMETIC, Halls.begun(1), h -> (long) h.share());
        shares("one was heard", 0f, match(hall(2, 1), 0, 1, 0, "d"));
    }

    @Promise(value = 43, says = "Returns their number divided by that of all, both converted to float.")
    private static void p43Share() {
        shares("none", 0f, match(hall(2, 3), 0, 1, 0, "dWw"));
        shares("one of three", 1f / 3f, match(hall(2, 3), 0, 1, 0, "dPw"));
        shares("two of three", 2f / 3f, match(hall(2, 3), 0, 1, 0, "tPw"));
        shares("all", 1f, match(hall(2, 3), 0, 1, 0, "tPB"));
    }

    @Promise(value = 43, says = "Returns the share of tossups heard in all matches that were answered rightly, as ruled.")
    private static void p43AsRuled() {
        TossupHall hall = match(match(hall(2, 3), 0, 1, 0, "dPw"), 0, 1, 1, "tW");
        shares("two of five", 2f / 5f, hall);
        hall.protest(0);
        hall.resolve(1, 0, true);
        hall.protest(1);
        hall.resolve(1, 1, true);
        shares("as ruled", 2f / 5f, hall);
        TossupHall behind = played(played(Halls.begun(1), 1, 0, "no"), 0, 2, "yes");
        Halls.parts(behind, "111");
        shares("right behind a wrong answer", 1f, behind);
    }

    // ---- promise 44

    private static void means(String what, double due, TossupHall hall) {
        answers(what, Double.doubleToLongBits(due), hall, h -> Double.doubleToLongBits(h.meanWords()));
    }

    @Promise(value = 44, says = "Throws ArithmeticException if there was none")
    private static void p44None() {
        refuses("no match", ARITHMETIC, Halls.ready(1), h -> (long) h.meanWords());
        refuses("no word was read", ARITHMETIC, Halls.emptyMatches(1), h -> (long) h.meanWords());
        refuses("wrong and dead ones alone", ARITHMETIC, match(hall(2, 3), 0, 1, 0, "dWw"), h -> (long) h.meanWords());
        TossupHall prompted = Halls.begun(1);
        Halls.play(prompted, 1, 0, "may");
        refuses("a prompt", ARITHMETIC, prompted, h -> (long) h.meanWords());
        means("one", 1.0, match(hall(2, 3), 0, 1, 0, "dWp"));
    }

    @Promise(value = 44, says = "Returns the sum divided by their number, both converted to double.")
    private static void p44Mean() {
        means("the least", 1.0, early(40, 1));
        means("the greatest", 40.0, early(40, 40));
        means("5 of 3", 5.0 / 3.0, match(hall(2, 3), 0, 1, 0, "PTt"));
        means("4 of 3", 4.0 / 3.0, match(hall(2, 3), 0, 1, 0, "PTp"));
    }

    @Promise(value = 44, says = "Returns the mean number of words at right answers, in all matches, as ruled.")
    private static void p44AsRuled() {
        TossupHall hall = match(match(hall(2, 3), 0, 1, 0, "PTW"), 1, 0, 1, "twd");
        means("of two matches, right ones alone", 5.0 / 3.0, hall);
        hall.protest(0);
        hall.resolve(1, 0, true);
        hall.protest(1);
        hall.resolve(1, 1, true);
        means("as ruled", 5.0 / 3.0, hall);
    }

    // ---- promise 45

    private static void isSound(String what, boolean due, TossupHall hall) {
        answers(what, bit(due), hall, h -> bit(h.isSound()));
    }

    @Promise(value = 45, says = "Returns whether it is so.")
    private static void p45Sound() {
        isSound("a new hall", true, new TossupHall());
        isSound("full of teams", true, teams(8));
        isSound("a match begins", true, Halls.begun(1));
        TossupHall hall = played(Halls.begun(1), 1, 0, "no");
        isSound("a ruling", true, hall);
        played(hall, 0, 2, "yes");
        isSound("a bonus", true, hall);
        Halls.parts(hall, "110");
        isSound("parts of it", true, hall);
        hall.part(true);
        isSound("behind it", true, hall);
        hall.protest(0);
        isSound("a protest", true, hall);
        hall.resolve(0, 0, true);
        isSound("it is upheld", true, hall);
        hall.protest(1);
        hall.resolve(0, 1, true);
        isSound("one behind it, too", true, hall);
        isSound("40 matches", true, Halls.emptyMatches(40));
        TossupHall later = hall(3, 1);
        rated("no match", later, 0, 1, 2);
        isSound("a match behind a rating", true, match(later, 0, 1, 0, "P"));
        later.team(0);
        isSound("a team behind that", true, later);
    }

    /** What no call can bring about is put into the hall's own fields here. */
    private static Object held(Object thing, String field) {
        try {
            Field found = thing.getClass().getDeclaredField(field);
            found.setAccessible(true);
            return found.get(thing);
        } catch (ReflectiveOperationException e) {
            throw new IllegalStateException(e);
        }
    }

    @Promise(value = 45, says = "Returns whether each score is that of the log gone through anew by tossups; no question is in two packets; "
        + "and ratings solve what they should.")
    private static void p45NotSound() {
        for (int match = 0; match < 3; match++) {
            for (int side = 0; side < 2; side++) {
                TossupHall scored = match(match(match(hall(2, 1), 0, 1, 0, "P"), 0, 1, 1, "p"), 0, 1, 2, "d");
                isSound("scores as they are due", true, scored);
                int[] scores = (int[]) held(Array.get(held(scored, "matches"), match), "scores");
                scores[side] += 5;
                isSound("a score that the log does not tell", false, scored);
            }
        }
        TossupHall packed = hall(2, 1);
        Object packets = held(packed, "packets");
        Array.set(packets, 3, Array.get(packets, 0));
        isSound("questions in two packets", false, packed);
    }
}
