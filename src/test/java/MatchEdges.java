import java.util.function.Supplier;

/** Promises 20 to 31, sentence by sentence: matches, buzzes, answers, bonuses, scores and rulings. */
final class MatchEdges extends Edges {
    private static final String ALL = "twbapo";

    private MatchEdges() {
    }

    /**
     * A match on three tossups of 4 words, in the first of which no word was read ('t'), one was ('w'), player 0 has
     * buzzed ('b'), answers ('a'), answers once more ('p'), or has won the bonus ('o'); '-' is behind its end.
     */
    private static TossupHall at(char where) {
        TossupHall hall = Halls.begun(3);
        if (where == '-') {
            hall.end();
            return hall;
        }
        if (where != 't') {
            hall.read(1);
        }
        if (where != 't' && where != 'w') {
            hall.buzz(0, 0);
        }
        if (where == 'a' || where == 'p' || where == 'o') {
            hall.lock();
        }
        if (where == 'p') {
            Halls.answer(hall, "may");
        } else if (where == 'o') {
            Halls.answer(hall, "yes");
        }
        return hall;
    }

    /** A match on one tossup of so many words, of which none was read; two teams of 4 players without reactions. */
    private static TossupHall words(int words) {
        TossupHall hall = new TossupHall();
        Halls.question(hall, 0, 0, words);
        Halls.line(hall, 0, 'a', "yes");
        hall.quota(0, 1);
        hall.packet();
        Halls.team(hall, 0, 0, 0, 0);
        Halls.team(hall, 0, 0, 0, 0);
        hall.match(0, 1, 0);
        return hall;
    }

    private static TossupHall typed(TossupHall hall, String text) {
        Halls.type(hall, text);
        return hall;
    }

    private static TossupHall with(TossupHall hall, int reaction, int... others) {
        int team = Halls.team(hall, reaction);
        for (int other : others) {
            hall.player(team, other);
        }
        return hall;
    }

    // ---- promise 20

    private static TossupHall eightTeams() {
        TossupHall hall = new TossupHall();
        for (int i = 0; i < 4; i++) {
            Halls.question(hall, 0, i, 1);
        }
        hall.quota(0, 1);
        for (int i = 0; i < 4; i++) {
            hall.packet();
        }
        for (int i = 0; i < 8; i++) {
            Halls.team(hall, 0);
        }
        return hall;
    }

    @Promise(value = 20, says = "Throws IndexOutOfBoundsException if there is no such team, for either, or packet")
    private static void p20TeamsAndPacket() {
        range("team", 0, 7, INDEX, MatchEdges::eightTeams, (h, v) -> h.match(v, 1, 0));
        range("other", 0, 7, INDEX, MatchEdges::eightTeams, (h, v) -> h.match(1, v, 0));
        range("packet", 0, 3, INDEX, MatchEdges::eightTeams, (h, v) -> h.match(6, 7, v));
        Supplier<TossupHall> two = () -> Halls.ready(1);
        range("team of two", 0, 1, INDEX, two, (h, v) -> h.match(v, v == 0 ? 1 : 0, 0));
        range("other of two", 0, 1, INDEX, two, (h, v) -> h.match(v == 0 ? 1 : 0, v, 0));
        range("packet of one", 0, 0, INDEX, two, (h, v) -> h.match(0, 1, v));
        beyond("team, none", 0, -1, INDEX, new TossupHall(), (h, v) -> h.match(v, v, v));
    }

    @Promise(value = 20, says = "Throws IllegalArgumentException if both teams are the same")
    private static void p20TheSame() {
        TossupHall hall = eightTeams();
        for (int i = 0; i < 8; i++) {
            int team = i;
            refuses("team " + i, ARGUMENT, hall, h -> h.match(team, team, 0));
        }
    }

    @Promise(value = 20, says = "Throws UnsupportedOperationException if one cannot play it")
    private static void p20CannotPlay() {
        TossupHall hall = eightTeams();
        hall.see(6, 0);
        refuses("the first has seen it", UNSUPPORTED, hall, h -> h.match(6, 7, 0));
        refuses("the other has seen it", UNSUPPORTED, hall, h -> h.match(7, 6, 0));
        answers("another packet", 0, hall, h -> h.match(6, 7, 1));
        TossupHall bare = Halls.ready(1);
        bare.team(0);
        refuses("the first has no players", UNSUPPORTED, bare, h -> h.match(2, 0, 0));
        refuses("the other has no players", UNSUPPORTED, bare, h -> h.match(0, 2, 0));
        bare.player(2, 0);
        answers("with one player", 0, bare, h -> h.match(0, 2, 0));
    }

    @Promise(value = 20, says = "Throws IllegalStateException if a match goes on, or there are 40")
    private static void p20OnOrFull() {
        for (char where : ALL.toCharArray()) {
            refuses("a match goes on, '" + where + "'", STATE, at(where), h -> h.match(0, 1, 0));
        }
        answers("behind a match", 1, at('-'), h -> h.match(0, 1, 0));
        answers("the 40th", 39, Halls.emptyMatches(39), h -> h.match(0, 1, 0));
        refuses("the 41st", STATE, Halls.emptyMatches(40), h -> h.match(0, 1, 0));
    }

    @Promise(value = 20, says = ORDER)
    private static void p20Order() {
        refuses("no team, the same", INDEX, Halls.ready(1), h -> h.match(2, 2, 0));
        refuses("the same, no packet", INDEX, Halls.ready(1), h -> h.match(0, 0, 1));
        refuses("no packet, a match goes on", INDEX, at('t'), h -> h.match(0, 1, 1));
        refuses("the same, a match goes on", ARGUMENT, at('t'), h -> h.match(0, 0, 0));
        TossupHall bare = Halls.ready(1);
        bare.team(0);
        refuses("the same, no players", ARGUMENT, bare, h -> h.match(2, 2, 0));
        bare.match(0, 1, 0);
        refuses("no players, a match goes on", UNSUPPORTED, bare, h -> h.match(2, 0, 0));
        TossupHall full = Halls.emptyMatches(40);
        refuses("the same, 40 matches", ARGUMENT, full, h -> h.match(1, 1, 0));
        full.see(0, 0);
        refuses("it has seen it, 40 matches", UNSUPPORTED, full, h -> h.match(0, 1, 0));
    }

    @Promise(value = 20, says = "Returns its number.")
    private static void p20Number() {
        TossupHall hall = Halls.ready(1);
        for (int i = 0; i < 40; i++) {
            answers("of a match", i, hall, h -> h.match(0, 1, 0));
            hall.end();
        }
    }

    @Promise(value = 20, says = "Begins a match.")
    private static void p20Begins() {
        TossupHall hall = at('t');
        answers("a tossup", 't', hall, TossupHall::phase);
        scores("at first", 0, 0, hall);
        answers("no ruling", 0, hall, h -> h.rulings(0));
        answers("one word", 1, hall, h -> h.read(1));
    }

    @Promise(value = 20, says = "A match is of two teams with players, and a packet that is set.")
    private static void p20Terms() {
        TossupHall hall = new TossupHall();
        Halls.question(hall, 0, 0, 1);
        hall.quota(0, 1);
        Halls.team(hall, 0);
        Halls.team(hall, 0);
        refuses("no packet is set", INDEX, hall, h -> h.match(0, 1, 0));
        hall.packet();
        answers("it is set", 0, hall, h -> h.match(0, 1, 0));
    }

    @Promise(value = 20, says = "It goes from tossup to tossup, in the packet's order.")
    private static void p20PacketsOrder() {
        TossupHall hall = new TossupHall();
        int[] categories = {1, 1, 0, 0};
        for (int i = 0; i < 4; i++) {
            Halls.question(hall, categories[i], i, 1);
            Halls.line(hall, i, 'a', "yes");
        }
        hall.quota(0, 2);
        hall.quota(1, 2);
        hall.packet();
        Halls.team(hall, 0);
        Halls.team(hall, 0);
        hall.match(0, 1, 0);
        int[] order = {0, 2, 1, 3};
        for (int i = 0; i < 4; i++) {
            int ruling = i;
            played(hall, 1, 0, "yes");
            Halls.parts(hall, "111");
            answers("tossup " + i, order[i], hall, h -> h.ruling(0, ruling, 'q'));
        }
        answers("behind the last one", '-', hall, TossupHall::phase);
    }

    // ---- promise 21

    @Promise(value = 21, says = "Throws IllegalStateException if no tossup is on, somebody answers, or buzzes are told")
    private static void p21NotNow() {
        refuses("no match yet", STATE, Halls.ready(1), h -> h.read(1));
        for (char where : "-bapo".toCharArray()) {
            refuses("at '" + where + "'", STATE, at(where), h -> h.read(1));
        }
        answers("no word yet", 1, at('t'), h -> h.read(1));
        answers("one word", 2, at('w'), h -> h.read(1));
    }

    @Promise(value = 21, says = "Throws IllegalArgumentException if it is out of range")
    private static void p21NoWords() {
        beyond("words", 1, 40, ARGUMENT, at('t'), (h, v) -> h.read(v));
        beyond("words", 1, 40, ARGUMENT, at('w'), (h, v) -> h.read(v));
    }

    @Promise(value = 21, says = "words: how many, 1 to 40")
    private static void p21Words() {
        range("words", 1, 40, ARGUMENT, () -> words(40), (h, v) -> h.read(v));
        range("words", 1, 40, ARGUMENT, () -> words(0), (h, v) -> h.read(v));
    }

    @Promise(value = 21, says = ORDER)
    private static void p21Order() {
        refuses("no match yet, no words", STATE, Halls.ready(1), h -> h.read(0));
        for (char where : "-bapo".toCharArray()) {
            refuses("at '" + where + "', too many", STATE, at(where), h -> h.read(41));
            refuses("at '" + where + "', too few", STATE, at(where), h -> h.read(0));
        }
    }

    @Promise(value = 21, says = "Returns how many words of it were read.")
    private static void p21HowMany() {
        TossupHall hall = words(40);
        for (int i = 1; i <= 40; i++) {
            answers("one by one", i, hall, h -> h.read(1));
        }
        answers("all at once", 40, words(40), h -> h.read(40));
        answers("none of none", 0, words(0), h -> h.read(40));
    }

    @Promise(value = 21, says = "Reads words of the tossup, as many as there are at most.")
    private static void p21AtMost() {
        TossupHall hall = words(39);
        answers("all but one", 38, hall, h -> h.read(38));
        answers("one is left", 39, hall, h -> h.read(2));
        answers("none is left", 39, hall, h -> h.read(1));
        answers("more than there are", 39, words(39), h -> h.read(40));
    }

    @Promise(value = 21, says = "A tossup is read word by word.")
    private static void p21EachAnew() {
        TossupHall hall = at('w');
        answers("two more", 3, hall, h -> h.read(2));
        answers("the fourth", 4, hall, h -> h.read(1));
        hall.dead();
        answers("the next tossup anew", 1, hall, h -> h.read(1));
    }

    @Promise(value = 21, says = "Reading goes on behind that.")
    private static void p21BehindAWrongAnswer() {
        answers("behind a wrong answer", 2, played(at('w'), 0, 0, "no"), h -> h.read(1));
        answers("all words were read", 4, played(at('w'), 3, 0, "no"), h -> h.read(1));
    }

    // ---- promise 22

    @Promise(value = 22, says = "Throws IllegalStateException if no tossup is on, no word was read, or somebody answers")
    private static void p22NotNow() {
        refuses("no match yet", STATE, Halls.ready(1), h -> h.buzz(0, 0));
        for (char where : "-tapo".toCharArray()) {
            refuses("at '" + where + "'", STATE, at(where), h -> h.buzz(2, 0));
        }
        TossupHall none = words(0);
        none.read(40);
        refuses("there is no word", STATE, none, h -> h.buzz(0, 0));
        TossupHall next = at('w');
        Halls.die(next);
        refuses("no word of the next tossup", STATE, next, h -> h.buzz(0, 0));
        answers("one word", 1, at('w'), h -> h.buzz(2, 0));
        answers("a buzz was told", 2, at('b'), h -> h.buzz(2, 0));
    }

    @Promise(value = 22, says = "Throws IndexOutOfBoundsException if there is no such player")
    private static void p22Player() {
        range("player", 0, 3, INDEX, () -> at('w'), (h, v) -> h.buzz(v, 0));
        Supplier<TossupHall> eight = () -> {
            TossupHall hall = words(1);
            hall.read(1);
            return hall;
        };
        range("player", 0, 7, INDEX, eight, (h, v) -> h.buzz(v, 0));
    }

    @Promise(value = 22, says = "Throws IllegalArgumentException if it is out of range")
    private static void p22NoTime() {
        beyond("time", 0, 9999999, ARGUMENT, at('w'), (h, v) -> h.buzz(0, v));
        beyond("time", 0, 9999999, ARGUMENT, at('b'), (h, v) -> h.buzz(2, v));
    }

    @Promise(value = 22, says = "time: the time, 0 to 9999999")
    private static void p22Time() {
        range("time", 0, 9999999, ARGUMENT, () -> at('w'), (h, v) -> h.buzz(0, v));
    }

    @Promise(value = 22, says = "Throws UnsupportedOperationException if the player is in neither team, the team is blocked, "
        + "or the player has buzzed")
    private static void p22CannotBuzz() {
        TossupHall third = Halls.ready(1);
        Halls.team(third, 0);
        third.match(0, 1, 0);
        third.read(1);
        refuses("in neither team", UNSUPPORTED, third, h -> h.buzz(4, 0));
        TossupHall blocked = played(at('t'), 1, 0, "no");
        refuses("the team is blocked", UNSUPPORTED, blocked, h -> h.buzz(0, 0));
        refuses("the team is blocked, another player", UNSUPPORTED, blocked, h -> h.buzz(1, 0));
        answers("the other team", 1, blocked, h -> h.buzz(2, 0));
        TossupHall buzzed = at('b');
        refuses("has buzzed", UNSUPPORTED, buzzed, h -> h.buzz(0, 0));
        refuses("has buzzed, another time", UNSUPPORTED, buzzed, h -> h.buzz(0, 9999999));
        answers("another player", 2, buzzed, h -> h.buzz(1, 0));
    }

    @Promise(value = 22, says = ORDER)
    private static void p22Order() {
        refuses("no word, no player", STATE, at('t'), h -> h.buzz(4, 0));
        refuses("no word, no time", STATE, at('t'), h -> h.buzz(0, -1));
        refuses("somebody answers, no player, no time", STATE, at('a'), h -> h.buzz(4, -1));
        refuses("no player, no time", INDEX, at('w'), h -> h.buzz(-1, 10000000));
        refuses("no time, has buzzed", ARGUMENT, at('b'), h -> h.buzz(0, 10000000));
        refuses("no time, blocked", ARGUMENT, played(at('w'), 0, 0, "no"), h -> h.buzz(0, -1));
        TossupHall third = Halls.ready(1);
        Halls.team(third, 0);
        third.match(0, 1, 0);
        refuses("no word, in neither team", STATE, third, h -> h.buzz(4, 0));
        third.read(1);
        refuses("no time, in neither team", ARGUMENT, third, h -> h.buzz(4, -1));
    }

    @Promise(value = 22, says = "Returns how many buzzes are told.")
    private static void p22HowMany() {
        TossupHall hall = words(1);
        hall.read(1);
        for (int i = 0; i < 8; i++) {
            int player = 7 - i;
            answers("all players", i + 1, hall, h -> h.buzz(player, 0));
        }
    }

    @Promise(value = 22, says = "Tells a buzz.")
    private static void p22Tells() {
        answers("buzzes are told", 'b', at('b'), TossupHall::phase);
        answers("who buzzed alone answers", 0, at('b'), TossupHall::lock);
    }

    @Promise(value = 22, says = "Buzzes can be told behind the first word, as long as nobody answers, of players whose team is not "
        + "blocked, each player once until they are locked; the times are microseconds since the last word.")
    private static void p22Terms() {
        TossupHall all = at('t');
        all.read(40);
        answers("behind the last word", 1, all, h -> h.buzz(0, 0));
        TossupHall next = played(at('t'), 1, 0, "no");
        Halls.die(next);
        next.read(1);
        answers("blocked for one tossup alone", 1, next, h -> h.buzz(0, 0));
    }

    // ---- promise 23

    @Promise(value = 23, says = "Throws IllegalStateException if no tossup is on, or somebody answers")
    private static void p23NotNow() {
        refuses("no match yet", STATE, Halls.ready(1), TossupHall::lock);
        for (char where : "-apo".toCharArray()) {
            refuses("at '" + where + "'", STATE, at(where), TossupHall::lock);
        }
    }

    @Promise(value = 23, says = "Throws NoSuchElementException if no buzz was told")
    private static void p23NoBuzz() {
        refuses("no word was read", NO_ELEMENT, at('t'), TossupHall::lock);
        refuses("a word was read", NO_ELEMENT, at('w'), TossupHall::lock);
        refuses("behind a wrong answer", NO_ELEMENT, played(at('w'), 0, 0, "no"), TossupHall::lock);
        TossupHall next = at('b');
        next.lock();
        Halls.answer(next, "yes");
        Halls.parts(next, "111");
        refuses("the next tossup", NO_ELEMENT, next, TossupHall::lock);
        answers("one buzz", 0, at('b'), TossupHall::lock);
    }

    @Promise(value = 23, says = ORDER)
    private static void p23Order() {
        refuses("no match, so that no buzz", STATE, at('-'), TossupHall::lock);
        refuses("somebody answers, so that no buzz is left", STATE, at('a'), TossupHall::lock);
        refuses("a bonus, no buzz", STATE, at('o'), TossupHall::lock);
    }

    @Promise(value = 23, says = "Locks the buzzes.")
    private static void p23Locks() {
        answers("somebody answers", 'a', at('a'), TossupHall::phase);
        refuses("no more buzzes", STATE, at('a'), h -> h.buzz(2, 0));
    }

    @Promise(value = 23, says = "Returns the player who answers.")
    private static void p23Player() {
        TossupHall hall = words(1);
        hall.read(1);
        hall.buzz(7, 1);
        hall.buzz(3, 2);
        hall.buzz(5, 0);
        answers("the least time", 5, hall, TossupHall::lock);
    }

    /** A match of teams with these two players each, of whom all have buzzed at these times. */
    private static TossupHall raced(int[] reactions, int[] times) {
        TossupHall hall = new TossupHall();
        Halls.question(hall, 0, 0, 1);
        hall.quota(0, 1);
        hall.packet();
        with(hall, reactions[0], reactions[1]);
        with(hall, reactions[2], reactions[3]);
        hall.match(0, 1, 0);
        hall.read(1);
        for (int i = 3; i >= 0; i--) {
            hall.buzz(i, times[i]);
        }
        return hall;
    }

    @Promise(value = 23, says = "When they are locked, the player with the least time and reaction together answers, of several the lowest")
    private static void p23Least() {
        int most = 9999999;
        int[] none = {0, 0, 0, 0};
        answers("all alike at the least", 0, raced(none, none), TossupHall::lock);
        int[] slow = {99999, 99999, 99999, 99999};
        answers("all alike at the most", 0, raced(slow, new int[] {most, most, most, most}), TossupHall::lock);
        answers("one less than the most", 3, raced(slow, new int[] {most, most, most, most - 1}), TossupHall::lock);
        answers("by the reaction", 2, raced(new int[] {9, 8, 6, 7}, none), TossupHall::lock);
        answers("by the time", 1, raced(none, new int[] {9, 6, 8, 7}), TossupHall::lock);
        answers("together", 2, raced(new int[] {0, 99999, 50, 51}, new int[] {100, 0, 49, 49}), TossupHall::lock);
        answers("the lowest of two", 1, raced(new int[] {0, 99, 50, 49}, new int[] {100, 0, 49, 51}), TossupHall::lock);
        answers("the lowest of two of the other team", 2, raced(new int[] {5, 5, 4, 3}, new int[] {0, 0, 0, 1}), TossupHall::lock);
    }

    @Promise(value = 23, says = "all others are forgotten, and can buzz again.")
    private static void p23Forgotten() {
        TossupHall hall = at('b');
        hall.buzz(2, 100);
        hall.buzz(3, 100);
        hall.lock();
        Halls.answer(hall, "no");
        answers("no buzz is told", 't', hall, TossupHall::phase);
        refuses("none is left to lock", NO_ELEMENT, hall, TossupHall::lock);
        answers("reading goes on", 2, hall, h -> h.read(1));
        answers("one again", 1, hall, h -> h.buzz(2, 9));
        answers("the other again", 2, hall, h -> h.buzz(3, 0));
        answers("by the new times", 3, hall, TossupHall::lock);
    }

    // ---- promise 24

    @Promise(value = 24, says = "Throws IllegalStateException if nobody answers")
    private static void p24Nobody() {
        refuses("no match yet", STATE, typed(Halls.ready(1), "yes"), TossupHall::answer);
        for (char where : "-twbo".toCharArray()) {
            refuses("at '" + where + "'", STATE, typed(at(where), "yes"), TossupHall::answer);
        }
    }

    @Promise(value = 24, says = "Throws UnsupportedOperationException if the text is empty")
    private static void p24NoText() {
        refuses("no text", UNSUPPORTED, at('a'), TossupHall::answer);
        refuses("no text, once more", UNSUPPORTED, at('p'), TossupHall::answer);
        answers("one letter", 'w', typed(at('a'), "y"), TossupHall::answer);
    }

    @Promise(value = 24, says = ORDER)
    private static void p24Order() {
        refuses("no match yet, no text", STATE, Halls.ready(1), TossupHall::answer);
        for (char where : "-twbo".toCharArray()) {
            refuses("at '" + where + "', no text", STATE, at(where), TossupHall::answer);
        }
    }

    @Promise(value = 24, says = "Returns 'r', 'p' or 'w'.")
    private static void p24Verdicts() {
        answers("right", 'r', typed(at('a'), "yes"), TossupHall::answer);
        answers("prompted", 'p', typed(at('a'), "may"), TossupHall::answer);
        answers("wrong", 'w', typed(at('a'), "no"), TossupHall::answer);
    }

    @Promise(value = 24, says = "Lets the one who answers give the text.")
    private static void p24Gives() {
        TossupHall hall = typed(at('a'), "yes");
        answers("right", 'r', hall, TossupHall::answer);
        answers("the text is used", 0, hall, TossupHall::wipe);
        answers("the player", 0, hall, h -> h.ruling(0, 0, 'p'));
        answers("a bonus", 'o', hall, TossupHall::phase);
    }

    @Promise(value = 24, says = "An answer is the typed text: behind 'p', the same player answers once more, and all but right is wrong then.")
    private static void p24OnceMore() {
        answers("still answers", 'a', at('p'), TossupHall::phase);
        answers("once more right", 'r', typed(at('p'), "yes"), TossupHall::answer);
        answers("once more wrong", 'w', typed(at('p'), "no"), TossupHall::answer);
        TossupHall twice = typed(at('p'), "may");
        answers("prompted twice", 'w', twice, TossupHall::answer);
        answers("the same player", 0, twice, h -> h.ruling(0, 0, 'p'));
        answers("that is over", 't', twice, TossupHall::phase);
        twice.buzz(2, 0);
        twice.lock();
        answers("another one is prompted anew", 'p', typed(twice, "may"), TossupHall::answer);
    }

    @Promise(value = 24, says = "Right brings 15 in power, by the mark as it is then, else 10, and a bonus.")
    private static void p24Right() {
        scores("behind 1 word of a mark of 2", 15, 0, played(at('t'), 1, 0, "yes"));
        scores("behind 2 words of a mark of 2", 10, 0, played(at('t'), 2, 0, "yes"));
        scores("the other team", 0, 15, played(at('t'), 1, 2, "yes"));
        int[][] marksAndScores = {{0, 10}, {1, 10}, {2, 15}, {40, 15}};
        for (int[] row : marksAndScores) {
            for (char where : "ap".toCharArray()) {
                TossupHall hall = at(where);
                hall.power(0, row[0]);
                Halls.answer(hall, "yes");
                scores("the mark as it is then is " + row[0], row[1], 0, hall);
                hall.power(0, 40 - row[0]);
                scores("not as it is later", row[1], 0, hall);
                answers("a bonus", 'o', hall, TossupHall::phase);
            }
        }
        TossupHall last = words(40);
        last.power(0, 40);
        scores("behind 40 words of a mark of 40", 10, 0, played(last, 40, 0, "yes"));
        TossupHall last39 = words(40);
        last39.power(0, 40);
        scores("behind 39 words of a mark of 40", 15, 0, played(last39, 39, 0, "yes"));
    }

    @Promise(value = 24, says = "Wrong, before all words were read, and if the other team is not blocked, brings -5")
    private static void p24Wrong() {
        scores("behind 1 of 4 words", -5, 0, played(at('t'), 1, 0, "no"));
        scores("behind 3 of 4 words", -5, 0, played(at('t'), 3, 0, "no"));
        scores("behind all words", 0, 0, played(at('t'), 4, 0, "no"));
        scores("of the other team", 0, -5, played(at('t'), 3, 2, "no"));
        scores("the other team is blocked by -5", -5, 0, played(played(at('t'), 1, 0, "no"), 1, 2, "no"));
        scores("the other team is blocked, the same word", 0, -5, played(played(at('t'), 1, 2, "no"), 0, 0, "no"));
        scores("all words of one", 0, 0, played(words(1), 1, 0, "no"));
        scores("39 of 40", -5, 0, played(words(40), 39, 0, "no"));
        scores("40 of 40", 0, 0, played(words(40), 40, 0, "no"));
        scores("prompted ahead of it", -5, 0, typedAnswer(at('p'), "no"));
    }

    private static TossupHall typedAnswer(TossupHall hall, String text) {
        Halls.answer(hall, text);
        return hall;
    }

    @Promise(value = 24, says = "the team is blocked in any case, for this tossup.")
    private static void p24Blocked() {
        for (int words : new int[] {1, 3, 4}) {
            TossupHall hall = played(at('t'), words, 0, "no");
            refuses("behind " + words + " words", UNSUPPORTED, hall, h -> h.buzz(1, 0));
            played(hall, 0, 2, "no");
            hall.read(1);
            answers("the next tossup", 1, hall, h -> h.buzz(1, 0));
            answers("of both", 2, hall, h -> h.buzz(2, 0));
        }
    }

    @Promise(value = 24, says = "The tossup is dead when both teams are blocked")
    private static void p24BothBlocked() {
        TossupHall hall = played(played(at('t'), 1, 0, "no"), 0, 2, "no");
        answers("a tossup", 't', hall, TossupHall::phase);
        answers("the next one", 1, hall, h -> h.read(1));
        TossupHall last = played(played(Halls.begun(1), 1, 0, "no"), 0, 2, "no");
        answers("behind the last one", '-', last, TossupHall::phase);
        answers("the match is over, so that it was seen", 1, last, h -> h.seen(0));
    }

    // ---- promise 25

    @Promise(value = 25, says = "Throws IllegalStateException if no tossup is on, somebody answers, or words are left")
    private static void p25NotNow() {
        refuses("no match yet", STATE, Halls.ready(1), TossupHall::dead);
        for (char where : "-twbapo".toCharArray()) {
            refuses("at '" + where + "'", STATE, at(where), TossupHall::dead);
        }
        TossupHall three = at('w');
        three.read(2);
        refuses("one word is left", STATE, three, TossupHall::dead);
        three.read(1);
        three.buzz(0, 0);
        three.lock();
        refuses("somebody answers, no word is left", STATE, three, TossupHall::dead);
        Halls.answer(three, "yes");
        refuses("a bonus, no word is left", STATE, three, TossupHall::dead);
    }

    @Promise(value = 25, says = "Returns the place of the next one in the packet, -1 if the match is over.")
    private static void p25NextPlace() {
        TossupHall hall = Halls.begun(10);
        for (int i = 1; i <= 10; i++) {
            hall.read(40);
            answers("tossup " + i + " of 10", i < 10 ? i : -1, hall, TossupHall::dead);
        }
        answers("over", '-', hall, TossupHall::phase);
        answers("a tossup without words, the last one", -1, words(0), TossupHall::dead);
        TossupHall blocked = played(at('t'), 4, 0, "no");
        answers("one team is blocked", 1, blocked, TossupHall::dead);
    }

    @Promise(value = 25, says = "buzzes that were told are forgotten.")
    private static void p25Forgotten() {
        TossupHall hall = at('b');
        hall.lock();
        Halls.answer(hall, "no");
        hall.read(40);
        hall.buzz(2, 0);
        hall.buzz(3, 0);
        answers("with buzzes told", 1, hall, TossupHall::dead);
        answers("none is told", 't', hall, TossupHall::phase);
        hall.read(1);
        refuses("none can be locked", NO_ELEMENT, hall, TossupHall::lock);
        answers("a new one", 1, hall, h -> h.buzz(2, 0));
        TossupHall last = Halls.begun(1);
        last.read(40);
        last.buzz(2, 0);
        answers("in the last tossup", -1, last, TossupHall::dead);
        answers("no match", '-', last, TossupHall::phase);
    }

    @Promise(value = 25, says = "or as it is told when all words were read, and nobody answers.")
    private static void p25Terms() {
        TossupHall hall = at('t');
        hall.read(40);
        answers("not by itself", 't', hall, TossupHall::phase);
        answers("the same tossup", 4, hall, h -> h.read(1));
        answers("as it is told", 1, hall, TossupHall::dead);
        answers("the next one", 1, hall, h -> h.read(1));
    }

    // ---- promise 26

    @Promise(value = 26, says = "Throws IllegalStateException if no bonus is on")
    private static void p26NoBonus() {
        refuses("no match yet", STATE, Halls.ready(1), h -> h.part(true));
        for (char where : "-twbap".toCharArray()) {
            refuses("at '" + where + "'", STATE, at(where), h -> h.part(true));
        }
        TossupHall over = at('o');
        Halls.parts(over, "111");
        refuses("three parts are over", STATE, over, h -> h.part(false));
        TossupHall last = played(Halls.begun(1), 1, 0, "yes");
        Halls.parts(last, "111");
        refuses("behind the last one", STATE, last, h -> h.part(false));
    }

    private static void parts(TossupHall hall, String told, int... due) {
        for (int i = 0; i < due.length; i++) {
            boolean isRight = told.charAt(i) == '1';
            answers("answer " + i + " of " + told, due[i], hall, h -> h.part(isRight));
        }
    }

    @Promise(value = 26, says = "Returns how many parts are over.")
    private static void p26HowMany() {
        parts(at('o'), "111", 1, 2, 3);
        parts(at('o'), "000000", 0, 1, 1, 2, 2, 3);
        parts(at('o'), "010101", 0, 1, 1, 2, 2, 3);
        parts(at('o'), "1001", 1, 1, 2, 3);
    }

    @Promise(value = 26, says = "Lets a team answer a part of the bonus: the one that controls it, or the other one behind that.")
    private static void p26Control() {
        TossupHall hall = played(at('t'), 2, 2, "yes");
        Halls.parts(hall, "1");
        scores("the team that controls it", 0, 20, hall);
        Halls.parts(hall, "0");
        scores("wrong", 0, 20, hall);
        Halls.parts(hall, "1");
        scores("the other one behind that", 10, 20, hall);
        Halls.parts(hall, "1");
        scores("the next part is of the first again", 10, 30, hall);
    }

    @Promise(value = 26, says = "A bonus has three parts.")
    private static void p26ThreeParts() {
        TossupHall hall = at('o');
        for (int i = 0; i < 3; i++) {
            answers("on", 'o', hall, TossupHall::phase);
            hall.part(false);
            answers("bounced", 'o', hall, TossupHall::phase);
            hall.part(false);
        }
        answers("over", 't', hall, TossupHall::phase);
    }

    @Promise(value = 26, says = "To each of them the team that controls it answers first, right or wrong, as told; "
        + "if it is wrong, the other team does.")
    private static void p26Bounces() {
        String[] told = {"111", "000000", "010101", "0111", "1011", "1101", "01101"};
        int[][] due = {{30, 0}, {0, 0}, {0, 30}, {20, 10}, {20, 10}, {20, 10}, {10, 20}};
        for (int i = 0; i < told.length; i++) {
            TossupHall hall = played(at('t'), 2, 0, "yes");
            Halls.parts(hall, told[i]);
            scores("answers " + told[i], 10 + due[i][0], due[i][1], hall);
            answers("all parts are over", 't', hall, TossupHall::phase);
        }
    }

    @Promise(value = 26, says = "A right part brings 10.")
    private static void p26Ten() {
        TossupHall hall = at('o');
        Halls.parts(hall, "1");
        scores("one part", 25, 0, hall);
        Halls.parts(hall, "11");
        scores("all parts", 45, 0, hall);
    }

    @Promise(value = 26, says = "Behind the third part the next tossup begins.")
    private static void p26NextTossup() {
        TossupHall hall = at('o');
        Halls.parts(hall, "1101");
        answers("the next tossup", 't', hall, TossupHall::phase);
        answers("from its first word", 1, hall, h -> h.read(1));
        played(hall, 0, 2, "yes");
        answers("which is question 1", 1, hall, h -> h.ruling(0, 1, 'q'));
        parts(hall, "000000", 0, 1, 1, 2, 2, 3);
    }

    // ---- promise 27

    @Promise(value = 27, says = "Throws IllegalStateException if no match goes on, a word of the tossup was read, or a bonus is on")
    private static void p27NotNow() {
        refuses("no match yet", STATE, Halls.ready(1), TossupHall::end);
        for (char where : "-wbapo".toCharArray()) {
            refuses("at '" + where + "'", STATE, at(where), TossupHall::end);
        }
        TossupHall all = at('w');
        all.read(40);
        refuses("all words were read", STATE, all, TossupHall::end);
        refuses("one team is blocked", STATE, played(at('w'), 0, 0, "no"), TossupHall::end);
        TossupHall part = at('o');
        Halls.parts(part, "110");
        refuses("a part is left", STATE, part, TossupHall::end);
        TossupHall over = Halls.begun(1);
        Halls.die(over);
        refuses("over by itself", STATE, over, TossupHall::end);
    }

    @Promise(value = 27, says = "Returns how many tossups were heard.")
    private static void p27HowMany() {
        for (int i = 0; i <= 9; i++) {
            TossupHall hall = Halls.begun(10);
            for (int j = 0; j < i; j++) {
                Halls.die(hall);
            }
            answers("of 10", i, hall, TossupHall::end);
        }
        TossupHall again = at('-');
        again.match(0, 1, 0);
        Halls.die(again);
        answers("of this match alone", 1, again, TossupHall::end);
    }

    @Promise(value = 27, says = "Ends the match between two tossups.")
    private static void p27Between() {
        TossupHall dead = at('t');
        Halls.die(dead);
        answers("behind a dead one", 1, dead, TossupHall::end);
        answers("no match", '-', dead, TossupHall::phase);
        TossupHall bonus = at('o');
        Halls.parts(bonus, "111");
        answers("behind a bonus", 1, bonus, TossupHall::end);
        TossupHall blocked = played(played(at('t'), 1, 0, "no"), 0, 2, "no");
        answers("behind a blocked one", 1, blocked, TossupHall::end);
        answers("ahead of the first one", 0, at('t'), TossupHall::end);
        TossupHall none = words(0);
        none.read(40);
        answers("a tossup without words", 0, none, TossupHall::end);
    }

    @Promise(value = 27, says = "The match ends behind the last tossup, or when it is told between two tossups.")
    private static void p27Terms() {
        TossupHall dead = Halls.begun(1);
        Halls.die(dead);
        answers("the last one is dead", '-', dead, TossupHall::phase);
        TossupHall bonus = played(Halls.begun(1), 1, 0, "yes");
        Halls.parts(bonus, "11");
        answers("a part is left", 'o', bonus, TossupHall::phase);
        answers("the third part", 3, bonus, h -> h.part(true));
        answers("behind it", '-', bonus, TossupHall::phase);
        answers("the ones who played it have seen it", 1, bonus, h -> h.seen(3));
    }

    // ---- promise 28

    @Promise(value = 28, says = "Returns '-' no match, 't' a tossup, 'b' buzzes are told, 'a' somebody answers, 'o' a bonus.")
    private static void p28Letters() {
        char[][] rows = {{'-', '-'}, {'t', 't'}, {'w', 't'}, {'b', 'b'}, {'a', 'a'}, {'p', 'a'}, {'o', 'o'}};
        for (char[] row : rows) {
            answers("at '" + row[0] + "'", row[1], at(row[0]), TossupHall::phase);
        }
        answers("a new hall", '-', new TossupHall(), TossupHall::phase);
        answers("no match yet", '-', Halls.ready(1), TossupHall::phase);
    }

    @Promise(value = 28, says = "Returns what goes on.")
    private static void p28WhatGoesOn() {
        answers("behind a wrong answer", 't', played(at('w'), 0, 0, "no"), TossupHall::phase);
        TossupHall bounced = at('o');
        bounced.part(false);
        answers("a part that bounced", 'o', bounced, TossupHall::phase);
        TossupHall all = at('w');
        all.read(40);
        answers("all words were read", 't', all, TossupHall::phase);
    }

    // ---- promise 29

    @Promise(value = 29, says = "Throws IndexOutOfBoundsException if there is no such match")
    private static void p29Match() {
        range("match", 0, 39, INDEX, () -> Halls.emptyMatches(40), (h, v) -> h.score(v, false));
        range("match", 0, 0, INDEX, () -> at('t'), (h, v) -> h.score(v, true));
        beyond("match, none", 0, -1, INDEX, Halls.ready(1), (h, v) -> h.score(v, true));
    }

    @Promise(value = 29, says = "Returns the score.")
    private static void p29Score() {
        scores("none", 0, 0, at('t'));
        TossupHall least = Halls.begun(10);
        TossupHall most = Halls.begun(10);
        for (int i = 0; i < 10; i++) {
            played(least, 1, 0, "no");
            played(least, 0, 2, "no");
            played(most, 1, 2, "yes");
            Halls.parts(most, "111");
        }
        scores("the least", -50, 0, least);
        scores("the most", 0, 450, most);
    }

    @Promise(value = 29, says = "Returns a score of a match, with protests that were upheld.")
    private static void p29Upheld() {
        TossupHall hall = played(Halls.begun(1), 1, 0, "no");
        Halls.die(hall);
        hall.protest(0);
        scores("lodged", -5, 0, hall);
        hall.resolve(0, 0, true);
        scores("upheld", 15, 0, hall);
        TossupHall refused = played(Halls.begun(1), 1, 0, "no");
        Halls.die(refused);
        refused.protest(0);
        refused.resolve(0, 0, false);
        scores("not upheld", -5, 0, refused);
    }

    // ---- promise 30

    @Promise(value = 30, says = "Throws IndexOutOfBoundsException if there is no such match")
    private static void p30Match() {
        range("match", 0, 39, INDEX, () -> Halls.emptyMatches(40), (h, v) -> h.rulings(v));
        range("match", 0, 0, INDEX, () -> at('t'), (h, v) -> h.rulings(v));
        beyond("match, none", 0, -1, INDEX, Halls.ready(1), (h, v) -> h.rulings(v));
    }

    @Promise(value = 30, says = "Returns how many.")
    private static void p30HowMany() {
        answers("none", 0, at('a'), h -> h.rulings(0));
        TossupHall hall = Halls.begun(10);
        for (int i = 0; i < 20; i++) {
            played(hall, i % 2 == 0 ? 1 : 0, i % 2 * 2, "no");
            answers("two of each tossup", i + 1, hall, h -> h.rulings(0));
        }
        answers("the match is over", '-', hall, TossupHall::phase);
    }

    @Promise(value = 30, says = "Returns how many rulings a match has.")
    private static void p30OfAMatch() {
        TossupHall hall = at('-');
        hall.match(0, 1, 0);
        played(hall, 1, 0, "yes");
        answers("the first", 0, hall, h -> h.rulings(0));
        answers("the second", 1, hall, h -> h.rulings(1));
    }

    @Promise(value = 30, says = "Each answer, right or wrong, is a ruling of the match, numbered from 0; prompts are none.")
    private static void p30Terms() {
        answers("right", 1, at('o'), h -> h.rulings(0));
        answers("prompted", 0, at('p'), h -> h.rulings(0));
        answers("wrong", 1, played(at('w'), 0, 0, "no"), h -> h.rulings(0));
        answers("prompted and right", 1, typedAnswer(at('p'), "yes"), h -> h.rulings(0));
        answers("prompted twice", 1, typedAnswer(at('p'), "may"), h -> h.rulings(0));
        TossupHall dead = at('t');
        Halls.die(dead);
        answers("a dead tossup is none", 0, dead, h -> h.rulings(0));
        TossupHall parts = at('o');
        Halls.parts(parts, "101");
        answers("parts of a bonus are none", 1, parts, h -> h.rulings(0));
    }

    // ---- promise 31

    @Promise(value = 31, says = "Throws IndexOutOfBoundsException if there is no such match or ruling")
    private static void p31MatchAndRuling() {
        beyond("match, none", 0, -1, INDEX, Halls.ready(1), (h, v) -> h.ruling(v, 0, 'p'));
        range("match", 0, 0, INDEX, () -> at('o'), (h, v) -> h.ruling(v, 0, 'p'));
        range("ruling", 0, 0, INDEX, () -> at('o'), (h, v) -> h.ruling(0, v, 'p'));
        beyond("ruling, none", 0, -1, INDEX, at('a'), (h, v) -> h.ruling(0, v, 'p'));
        Supplier<TossupHall> twenty = () -> {
            TossupHall hall = Halls.begun(10);
            for (int i = 0; i < 20; i++) {
                played(hall, i % 2 == 0 ? 1 : 0, i % 2 * 2, "no");
            }
            return hall;
        };
        range("ruling", 0, 19, INDEX, twenty, (h, v) -> h.ruling(0, v, 'p'));
    }

    @Promise(value = 31, says = "Throws IllegalArgumentException if there is no such letter")
    private static void p31NoLetter() {
        letters("letter", "pwrq", ARGUMENT, () -> at('o'), (h, v) -> h.ruling(0, 0, (char) v));
    }

    @Promise(value = 31, says = ORDER)
    private static void p31Order() {
        refuses("no match, no letter", INDEX, at('o'), h -> h.ruling(1, 0, 'x'));
        refuses("no ruling, no letter", INDEX, at('o'), h -> h.ruling(0, 1, 'x'));
        refuses("no match at all, no letter", INDEX, Halls.ready(1), h -> h.ruling(0, 0, 'x'));
    }

    private static void ruled(String what, TossupHall hall, int ruling, int player, int words, int right, int question) {
        answers(what + ", the player", player, hall, h -> h.ruling(0, ruling, 'p'));
        answers(what + ", the words", words, hall, h -> h.ruling(0, ruling, 'w'));
        answers(what + ", whether right", right, hall, h -> h.ruling(0, ruling, 'r'));
        answers(what + ", the question", question, hall, h -> h.ruling(0, ruling, 'q'));
    }

    @Promise(value = 31, says = "what: 'p' the player, 'w' how many words were read, 'r' 1 if it is right, or 0, 'q' the question")
    private static void p31Letters() {
        ruled("the least", played(at('t'), 1, 0, "yes"), 0, 0, 1, 1, 0);
        TossupHall hall = new TossupHall();
        for (int i = 0; i < 23; i++) {
            hall.question(0, i);
        }
        Halls.question(hall, 1, 23, 40);
        hall.quota(1, 1);
        hall.packet();
        for (int i = 0; i < 5; i++) {
            Halls.team(hall, 0, 0, 0, 0);
        }
        hall.match(3, 4, 0);
        ruled("the greatest", played(hall, 40, 19, "no"), 0, 19, 40, 0, 23);
    }

    @Promise(value = 31, says = "Returns something of a ruling, as it was given.")
    private static void p31AsGiven() {
        TossupHall hall = played(Halls.begun(1), 3, 2, "no");
        Halls.die(hall);
        hall.protest(0);
        hall.resolve(0, 0, true);
        ruled("upheld", hall, 0, 2, 3, 0, 0);
    }

    @Promise(value = 31, says = "Returns the number.")
    private static void p31EachRuling() {
        TossupHall hall = Halls.begun(2);
        played(hall, 1, 3, "no");
        played(hall, 1, 1, "yes");
        Halls.parts(hall, "111");
        played(hall, 4, 0, "no");
        ruled("ruling 0", hall, 0, 3, 1, 0, 0);
        ruled("ruling 1", hall, 1, 1, 2, 1, 0);
        ruled("ruling 2", hall, 2, 0, 4, 0, 1);
    }
}
