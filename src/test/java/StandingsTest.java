/** Promises 36 to 45: ranks, pools, ratings, counts and figures. */
public final class StandingsTest {
    public static void main(String[] args) {
        rankedWrongInputs();
        rankedByWins();
        rankedByPoints();
        rankedByEndedMatches();
        rankedWithinThePool();
        rankedWithProtests();
        pools();
        poolsByAllMatches();
        rating();
        ratingOfMany();
        ratingOfAll();
        count();
        countOfTheMatchThatGoesOn();
        countEarly();
        isSuspect();
        isSuspectWithMore();
        best();
        share();
        meanWords();
        isSound();
        Checks.finish("StandingsTest");
    }

    /** Teams 0 to 3 of one player each, and packets 0 to 3 of one question of 4 words each. */
    private static TossupHall fourTeams() {
        TossupHall hall = new TossupHall();
        hall.quota(0, 1);
        for (int i = 0; i < 4; i++) {
            Halls.question(hall, 0, i, 4);
            Halls.line(hall, i, 'a', "yes");
            hall.packet();
            Halls.team(hall, 0);
        }
        return hall;
    }

    private static void ranks(String what, TossupHall hall, int pool, int... due) {
        for (int i = 0; i < due.length; i++) {
            Checks.same(what + ": rank " + i, hall.ranked(pool, i), due[i]);
        }
        Checks.fails(what + ": no more", Halls.INDEX, () -> hall.ranked(pool, due.length));
    }

    private static void rankedWrongInputs() {
        TossupHall hall = new TossupHall();
        Checks.fails("promise 36: no teams", Halls.INDEX, () -> hall.ranked(0, 0));
        Checks.fails("promise 36: no teams in the last pool", Halls.INDEX, () -> hall.ranked(3, 0));
        hall.team(1);
        Checks.fails("promise 36: pool -1", Halls.ARGUMENT, () -> hall.ranked(-1, -1));
        Checks.fails("promise 36: pool 4", Halls.ARGUMENT, () -> hall.ranked(4, 0));
        Checks.fails("promise 36: rank -1", Halls.INDEX, () -> hall.ranked(0, -1));
        ranks("promise 36: one team", hall, 0, 0);
        ranks("promise 36: an empty pool", hall, 1);
    }

    private static void rankedByWins() {
        TossupHall hall = fourTeams();
        ranks("promise 36: rising numbers", hall, 0, 0, 1, 2, 3);
        hall.match(2, 3, 0);
        hall.end();
        ranks("promise 36: 1 for equal scores", hall, 0, 2, 3, 0, 1);
        Halls.shortMatch(hall, 1, 0, 0, 4, 1, "yes");
        ranks("promise 36: 2 for a win", hall, 0, 1, 2, 3, 0);
        hall.match(2, 3, 0);
        hall.end();
        hall.match(3, 0, 1);
        hall.end();
        // 3 has 3, 1 and 2 have 2, of which 1 has points; 0 has 1.
        ranks("promise 36: wins add up", hall, 0, 3, 1, 2, 0);
    }

    private static void rankedByPoints() {
        TossupHall hall = Halls.ready(4);
        Halls.team(hall, 0);
        Halls.team(hall, 0);
        // Teams 0 and 1: 10 to -5 in two tossups; teams 2 and 3: 10 to -5 in three.
        hall.match(0, 1, 0);
        Halls.play(hall, 2, 0, "yes");
        Halls.parts(hall, "000000");
        Halls.play(hall, 1, 2, "no");
        Halls.die(hall);
        hall.end();
        hall.match(2, 3, 0);
        Halls.play(hall, 2, 4, "yes");
        Halls.parts(hall, "000000");
        Halls.play(hall, 1, 5, "no");
        Halls.die(hall);
        Halls.die(hall);
        hall.end();
        ranks("promise 36: by points for each tossup", hall, 0, 0, 2, 3, 1);
        hall.team(7);
        ranks("promise 36: 0 without one, equal to no wins", hall, 0, 0, 2, 4, 3, 1);
    }

    private static void rankedByEndedMatches() {
        TossupHall hall = Halls.ready(2);
        hall.match(1, 0, 0);
        Halls.play(hall, 1, 2, "yes");
        Halls.parts(hall, "111");
        ranks("promise 36: a match that goes on does not count", hall, 0, 0, 1);
        Checks.same("promise 39: nor for the rating", hall.rating(1, true), 2);
        hall.end();
        ranks("promise 36: it ended", hall, 0, 1, 0);
        Checks.same("promise 39: it ended", hall.rating(1, true), 8);
    }

    private static void rankedWithinThePool() {
        TossupHall hall = fourTeams();
        Halls.shortMatch(hall, 0, 1, 0, 4, 0, "yes");
        Halls.shortMatch(hall, 2, 3, 0, 4, 2, "yes");
        Checks.same("promise 37: two", hall.pools(2), 2);
        // By wins, points and numbers: 0, 2, 1, 3; so 0 and 2 are in pool 0.
        ranks("promise 36: no match against each other", hall, 0, 0, 2);
        ranks("promise 36: the other pool", hall, 1, 1, 3);
        hall.match(2, 0, 1);
        Halls.play(hall, 4, 2, "yes");
        Halls.parts(hall, "000000");
        ranks("promise 36: in the pool", hall, 0, 2, 0);
        hall.match(3, 0, 2);
        hall.end();
        ranks("promise 36: matches against others bring no wins", hall, 1, 1, 3);
        hall.pools(1);
        // What was played carries over: 2 has 4, 0 has 3, 3 has 1, 1 has 0.
        ranks("promise 36: all together", hall, 0, 2, 0, 3, 1);
    }

    private static void rankedWithProtests() {
        TossupHall hall = fourTeams();
        Halls.shortMatch(hall, 0, 1, 0, 2, 1, "no");
        ranks("promise 36: as ruled", hall, 0, 0, 2, 3, 1);
        hall.protest(0);
        ranks("promise 36: not resolved", hall, 0, 0, 2, 3, 1);
        hall.resolve(0, 0, true);
        ranks("promise 36: upheld", hall, 0, 1, 0, 2, 3);
        Checks.same("promise 39: upheld, upper", hall.rating(1, false), 5);
        Checks.same("promise 39: upheld, lower", hall.rating(1, true), 8);
    }

    private static void pools() {
        TossupHall hall = new TossupHall();
        Checks.fails("promise 37: 0", Halls.ARGUMENT, () -> hall.pools(0));
        Checks.fails("promise 37: 5", Halls.ARGUMENT, () -> hall.pools(5));
        Checks.same("promise 37: no teams", hall.pools(4), 0);
        Checks.fails("promise 38: team -1", Halls.INDEX, () -> hall.poolOf(-1));
        Checks.fails("promise 38: team 0", Halls.INDEX, () -> hall.poolOf(0));
        int[][] due = {{0, 0, 0, 0, 0, 0, 0}, {0, 0, 0, 0, 1, 1, 1}, {0, 0, 0, 1, 1, 2, 2}, {0, 0, 1, 1, 2, 2, 3}};
        for (int i = 0; i < 7; i++) {
            hall.team(i);
            Checks.same("promise 38: at first", hall.poolOf(i), 0);
        }
        for (int pools = 1; pools <= 4; pools++) {
            Checks.same("promise 37: of the first", hall.pools(pools), (7 + pools - 1) / pools);
            for (int team = 0; team < 7; team++) {
                Checks.same("promise 38: of " + pools, hall.poolOf(team), due[pools - 1][team]);
            }
        }
        hall.team(0);
        Checks.same("promise 38: a new team", hall.poolOf(7), 0);
        ranks("promise 36: with the new team", hall, 0, 0, 1, 7);
        Checks.same("promise 37: 8 in 4", hall.pools(4), 2);
        Checks.same("promise 38: the last", hall.poolOf(7), 3);
        TossupHall small = new TossupHall();
        small.team(0);
        Checks.same("promise 37: one team in 3", small.pools(3), 1);
        Checks.same("promise 38: it is in the first", small.poolOf(0), 0);
    }

    private static void poolsByAllMatches() {
        TossupHall hall = fourTeams();
        Halls.shortMatch(hall, 3, 0, 0, 4, 3, "yes");
        Halls.shortMatch(hall, 2, 1, 0, 4, 2, "yes");
        hall.pools(4);
        Checks.same("promise 38: 2 is first", hall.poolOf(2), 0);
        Checks.same("promise 38: 3 is second", hall.poolOf(3), 1);
        Halls.shortMatch(hall, 3, 1, 1, 4, 3, "yes");
        hall.match(2, 3, 2);
        Checks.fails("promise 37: a match goes on", Halls.STATE, () -> hall.pools(2));
        Checks.fails("promise 37: a match goes on, out of range", Halls.ARGUMENT, () -> hall.pools(5));
        Checks.same("promise 38: nothing was changed", hall.poolOf(3), 1);
        hall.end();
        Checks.same("promise 37: matches against all count", hall.pools(2), 2);
        Checks.same("promise 38: 3 is first", hall.poolOf(3), 0);
        Checks.same("promise 38: 2 is second", hall.poolOf(2), 0);
        Checks.same("promise 38: 0 is third", hall.poolOf(0), 1);
        Checks.same("promise 38: 1 is last", hall.poolOf(1), 1);
        // Both have 1 from each other, and 10 points for each tossup.
        ranks("promise 36: within the pool", hall, 0, 2, 3);
    }

    private static void rated(String what, TossupHall hall, int team, long upper, long lower) {
        Checks.same(what + ": upper of " + team, hall.rating(team, false), upper);
        Checks.same(what + ": lower of " + team, hall.rating(team, true), lower);
    }

    private static void rating() {
        TossupHall hall = new TossupHall();
        Checks.fails("promise 39: no team", Halls.INDEX, () -> hall.rating(0, false));
        hall.team(0);
        rated("promise 39: no matches", hall, 0, 1, 2);
        Checks.fails("promise 39: team -1", Halls.INDEX, () -> hall.rating(-1, false));
        Checks.fails("promise 39: team 1", Halls.INDEX, () -> hall.rating(1, true));
        TossupHall four = fourTeams();
        four.match(0, 1, 0);
        four.end();
        rated("promise 39: equal scores", four, 0, 1, 2);
        Halls.shortMatch(four, 0, 1, 0, 4, 0, "yes");
        // 4 a - 2 b = 3/2 and 4 b - 2 a = 1/2.
        rated("promise 39: a win more", four, 0, 7, 12);
        rated("promise 39: a loss more", four, 1, 5, 12);
        rated("promise 39: who did not play", four, 2, 1, 2);
    }

    private static void ratingOfMany() {
        TossupHall hall = fourTeams();
        // 0 beats 1, 2 and 3: 5 a - b - c - d = 5/2, and 3 b - a = 1/2 for each of the others.
        for (int i = 1; i < 4; i++) {
            Halls.shortMatch(hall, 0, i, i, 4, 0, "yes");
        }
        rated("promise 39: three wins", hall, 0, 3, 4);
        rated("promise 39: one loss", hall, 1, 5, 12);
        rated("promise 39: one loss", hall, 3, 5, 12);
        Checks.holds("promise 45: they solve it", hall.isSound());
    }

    /** 8 teams and 40 matches, of which 16 are won: what is answered must solve the equations, in lowest terms. */
    private static void ratingOfAll() {
        TossupHall hall = fourTeams();
        for (int i = 4; i < 8; i++) {
            Halls.team(hall, 0);
        }
        int[][] met = new int[8][8];
        int[] won = new int[8];
        for (int i = 0; i < 24; i++) {
            int team = i % 3;
            meet(met, team, 3 + i % 5);
            hall.match(team, 3 + i % 5, 0);
            hall.end();
        }
        for (int packet = 0; packet < 4; packet++) {
            for (int team = 0; team < 4; team++) {
                int other = 4 + (team + packet) % 4;
                meet(met, team, other);
                Halls.shortMatch(hall, team, other, packet, 4, team, "yes");
                won[team]++;
                won[other]--;
            }
        }
        for (int team = 0; team < 8; team++) {
            solves(hall, team, met[team], won[team]);
        }
        Checks.holds("promise 45: they solve it", hall.isSound());
    }

    private static void meet(int[][] met, int team, int other) {
        met[team][other]++;
        met[other][team]++;
    }

    private static HallModel.Fraction fraction(TossupHall hall, int team) {
        return new HallModel.Fraction(hall.rating(team, false), hall.rating(team, true));
    }

    private static void solves(TossupHall hall, int team, int[] met, int won) {
        HallModel.Fraction own = fraction(hall, team);
        HallModel.Fraction left = own.minus(own.times(new HallModel.Fraction(-1, 1)));
        for (int i = 0; i < met.length; i++) {
            HallModel.Fraction more = own.minus(fraction(hall, i)).times(new HallModel.Fraction(-met[i], 1));
            left = left.minus(more);
        }
        HallModel.Fraction due = new HallModel.Fraction(2 + won, 2);
        Checks.holds("promise 39: solved for " + team, left.upper.equals(due.upper) && left.lower.equals(due.lower));
        Checks.same("promise 39: lowest terms of " + team, hall.rating(team, true), own.lower.longValueExact());
    }

    private static void count() {
        TossupHall hall = Halls.begun(5);
        Halls.play(hall, 1, 0, "yes");
        Halls.parts(hall, "111");
        Halls.play(hall, 3, 0, "yes");
        Halls.parts(hall, "111");
        Halls.play(hall, 1, 0, "no");
        Halls.play(hall, 1, 2, "no");
        Halls.play(hall, 4, 0, "no");
        Halls.play(hall, 0, 3, "yes");
        hall.protest(0);
        Halls.parts(hall, "111");
        hall.end();
        hall.resolve(0, 0, true);
        counted("promise 40: player 0", hall, 0, 1, 1, 1, 1, 4);
        counted("promise 40: player 1", hall, 1, 0, 0, 0, 0, 4);
        counted("promise 40: player 2", hall, 2, 0, 0, 0, 1, 4);
        counted("promise 40: player 3", hall, 3, 0, 1, 0, 0, 4);
        hall.player(0, 0);
        counted("promise 40: who came later", hall, 4, 0, 0, 0, 0, 4);
        Halls.team(hall, 0);
        counted("promise 40: who did not play", hall, 5, 0, 0, 0, 0, 0);
        Checks.fails("promise 40: player -1", Halls.INDEX, () -> hall.count(-1, 'z'));
        Checks.fails("promise 40: player 6", Halls.INDEX, () -> hall.count(6, 'p'));
        Checks.fails("promise 40: letter 'r'", Halls.ARGUMENT, () -> hall.count(0, 'r'));
        Checks.fails("promise 40: letter 'H'", Halls.ARGUMENT, () -> hall.count(0, 'H'));
    }

    private static void counted(String what, TossupHall hall, int player, int... due) {
        String letters = "ptnwh";
        for (int i = 0; i < due.length; i++) {
            Checks.same(what + " '" + letters.charAt(i) + "'", hall.count(player, letters.charAt(i)), due[i]);
        }
    }

    private static void countOfTheMatchThatGoesOn() {
        TossupHall hall = Halls.begun(3);
        Checks.same("promise 40: no word was read", hall.count(0, 'h'), 0);
        Halls.play(hall, 1, 0, "no");
        Checks.same("promise 40: of all matches", hall.count(0, 'n'), 1);
        Checks.same("promise 40: a word was read", hall.count(3, 'h'), 1);
        Halls.play(hall, 0, 2, "yes");
        Checks.exact("promise 43: of all matches", hall.share(), 1.0f);
        Checks.exact("promise 44: of all matches", hall.meanWords(), 1.0);
    }

    private static void countEarly() {
        TossupHall hall = new TossupHall();
        for (int i = 0; i < 3; i++) {
            Halls.question(hall, i % 2, i, 16);
            Halls.line(hall, i, 'a', "yes");
        }
        hall.quota(0, 2);
        hall.quota(1, 1);
        hall.packet();
        Halls.team(hall, 0);
        Halls.team(hall, 0);
        hall.match(0, 1, 0);
        Halls.play(hall, 11, 0, "yes");
        Halls.parts(hall, "111");
        Halls.play(hall, 2, 0, "yes");
        Halls.parts(hall, "111");
        Halls.play(hall, 12, 0, "yes");
        // Of 16 words, 12 behind no knowledge: 11 and 2 are early, 12 is not.
        Checks.same("promise 40: early", hall.count(0, 'e'), 2);
        hall.know(0, 0, 1);
        // 16 * 8 / 12 is 10, cut.
        Checks.same("promise 40: early by what the player knows now", hall.count(0, 'e'), 1);
        hall.know(0, 1, 7);
        // 16 * 2 / 12 is 2, cut.
        Checks.same("promise 40: early by the category", hall.count(0, 'e'), 0);
        hall.know(0, 1, 6);
        Checks.same("promise 40: early by 4 words", hall.count(0, 'e'), 1);
        hall.know(0, 1, 9);
        Checks.same("promise 40: who knows all is never early", hall.count(0, 'e'), 0);
        Checks.same("promise 40: the other player", hall.count(1, 'e'), 0);
    }

    private static void isSuspect() {
        TossupHall hall = Halls.begun(5);
        Checks.fails("promise 41: player -1", Halls.INDEX, () -> hall.isSuspect(-1));
        Checks.fails("promise 41: player 4", Halls.INDEX, () -> hall.isSuspect(4));
        Checks.holds("promise 41: at first", !hall.isSuspect(0));
        // Of 4 words, buzzes behind fewer than 3 are early.
        Halls.play(hall, 2, 0, "yes");
        Halls.parts(hall, "111");
        Checks.holds("promise 41: one of one", !hall.isSuspect(0));
        Halls.play(hall, 3, 0, "yes");
        Halls.parts(hall, "111");
        Halls.play(hall, 1, 0, "yes");
        Halls.parts(hall, "111");
        Checks.holds("promise 41: two of three", hall.isSuspect(0));
        Halls.play(hall, 4, 0, "yes");
        Checks.holds("promise 41: two of four", !hall.isSuspect(0));
        Halls.parts(hall, "111");
        Halls.play(hall, 1, 0, "no");
        Checks.holds("promise 41: wrong ones do not count", !hall.isSuspect(0));
        Halls.play(hall, 0, 2, "yes");
        Checks.holds("promise 41: one of one, the other", !hall.isSuspect(2));
        Halls.parts(hall, "111");
        hall.know(0, 1, 9);
        Checks.holds("promise 41: by what the player knows now", !hall.isSuspect(0));
    }

    private static void isSuspectWithMore() {
        TossupHall hall = Halls.begun(6);
        // Of 4 words, buzzes behind fewer than 3 are early.
        int[] words = {3, 1, 4, 2, 1, 3};
        boolean[] due = {false, false, false, false, true, false};
        for (int i = 0; i < 6; i++) {
            Halls.play(hall, words[i], 0, "yes");
            Halls.parts(hall, "111");
            Checks.same("promise 41: behind " + (i + 1) + " right ones", hall.isSuspect(0) ? 1 : 0, due[i] ? 1 : 0);
        }
    }

    private static void best() {
        TossupHall hall = new TossupHall();
        Halls.team(hall, 0);
        Halls.question(hall, 0, 0, 10);
        Halls.question(hall, 1, 1, 1);
        hall.question(2, 2);
        Checks.fails("promise 42: player -1", Halls.INDEX, () -> hall.best(-1, 2));
        Checks.fails("promise 42: player 1", Halls.INDEX, () -> hall.best(1, 0));
        Checks.fails("promise 42: question -1", Halls.INDEX, () -> hall.best(0, -1));
        Checks.fails("promise 42: question 3", Halls.INDEX, () -> hall.best(0, 3));
        Checks.fails("promise 42: no words", Halls.UNSUPPORTED, () -> hall.best(0, 2));
        // Without knowledge each worth is below 0 but the last one, which is 0.
        Checks.same("promise 42: knows nothing", hall.best(0, 0), 10);
        Checks.same("promise 42: one word", hall.best(0, 1), 1);
        // (20 - k) (15 c - 500) for c = 9 k: 90 k - ... is greatest behind k = 10 with 10 * 900.
        hall.know(0, 0, 9);
        Checks.same("promise 42: knows all", hall.best(0, 0), bestOf(10, 9, 0));
        for (int mark = 0; mark <= 12; mark++) {
            hall.power(0, mark);
            for (int knowledge = 0; knowledge <= 9; knowledge++) {
                hall.know(0, 0, knowledge);
                Checks.same("promise 42: mark " + mark + ", knowledge " + knowledge, hall.best(0, 0),
                    bestOf(10, knowledge, mark));
            }
        }
        longQuestions(hall);
    }

    private static void longQuestions(TossupHall hall) {
        int number = Halls.question(hall, 3, 3, 40);
        for (int mark = 0; mark <= 40; mark += 5) {
            hall.power(number, mark);
            for (int knowledge = 1; knowledge <= 9; knowledge += 4) {
                hall.know(0, 3, knowledge);
                Checks.same("promise 42: 40 words, mark " + mark, hall.best(0, number), bestOf(40, knowledge, mark));
            }
        }
    }

    private static int bestOf(int words, int knowledge, int mark) {
        int best = 0;
        long greatest = Long.MIN_VALUE;
        for (int k = words; k >= 1; k--) {
            long c = Math.min((long) knowledge * k, 9L * words);
            long worth = (2L * words - k) * (c * (k < mark ? 15 : 10) - (10L * words - c) * (k == words ? 0 : 5));
            if (worth >= greatest) {
                greatest = worth;
                best = k;
            }
        }
        return best;
    }

    private static void share() {
        TossupHall hall = Halls.ready(4);
        Checks.fails("promise 43: no match", Halls.ARITHMETIC, hall::share);
        hall.match(0, 1, 0);
        Checks.fails("promise 43: no word was read", Halls.ARITHMETIC, hall::share);
        hall.read(1);
        Checks.exact("promise 43: none of one", hall.share(), 0.0f);
        Halls.play(hall, 0, 0, "no");
        Halls.play(hall, 0, 2, "yes");
        Halls.parts(hall, "111");
        Checks.exact("promise 43: one of one", hall.share(), 1.0f);
        Halls.die(hall);
        Halls.die(hall);
        hall.protest(1);
        hall.end();
        hall.resolve(0, 1, true);
        Checks.exact("promise 43: one of three, as ruled", hall.share(), 1.0f / 3.0f);
        Halls.team(hall, 0);
        Halls.team(hall, 0);
        hall.match(2, 3, 0);
        Halls.die(hall);
        Halls.play(hall, 4, 4, "yes");
        Checks.exact("promise 43: of both matches", hall.share(), 2.0f / 5.0f);
    }

    private static void meanWords() {
        TossupHall hall = Halls.ready(4);
        Checks.fails("promise 44: no match", Halls.ARITHMETIC, hall::meanWords);
        hall.match(0, 1, 0);
        Halls.play(hall, 3, 0, "no");
        Checks.fails("promise 44: no right answer", Halls.ARITHMETIC, hall::meanWords);
        Halls.play(hall, 1, 2, "yes");
        Checks.exact("promise 44: one", hall.meanWords(), 4.0);
        Halls.parts(hall, "111");
        Halls.play(hall, 1, 0, "yes");
        Halls.parts(hall, "111");
        Checks.exact("promise 44: two", hall.meanWords(), 2.5);
        Halls.play(hall, 2, 0, "yes");
        hall.protest(1);
        Halls.parts(hall, "111");
        hall.end();
        hall.resolve(0, 1, true);
        Checks.exact("promise 44: three, as ruled", hall.meanWords(), 7.0 / 3.0);
    }

    private static void isSound() {
        Checks.holds("promise 45: a new hall", new TossupHall().isSound());
        TossupHall hall = Halls.ready(3);
        Checks.holds("promise 45: with teams", hall.isSound());
        hall.match(0, 1, 0);
        Halls.play(hall, 1, 0, "no");
        Halls.play(hall, 0, 2, "yes");
        hall.part(false);
        hall.part(true);
        Checks.holds("promise 45: in a bonus", hall.isSound());
        Halls.parts(hall, "11");
        Checks.holds("promise 45: behind it", hall.isSound());
        hall.protest(0);
        hall.end();
        Checks.holds("promise 45: ended", hall.isSound());
        hall.resolve(0, 0, true);
        Checks.holds("promise 45: upheld", hall.isSound());
    }
}
