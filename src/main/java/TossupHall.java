import java.util.NoSuchElementException;

/** Questions against the clock: tossups, packets, teams, matches, protests, standings and figures. */
public final class TossupHall {
    private static final int NONE = -1;
    private static final int CATEGORIES = 6;
    private static final int THEMES = 100;
    private static final int WORD_NUMBERS = 100;
    private static final int SCHOOLS = 100;
    private static final int POOLS = 4;
    private static final int SIDES = 2;
    private static final int MOST_QUESTIONS = 24;
    private static final int MOST_WORDS = 40;
    private static final int MOST_LINES = 6;
    private static final int MOST_LETTERS = 12;
    private static final int MOST_PACKETS = 4;
    private static final int MOST_PACKED = 10;
    private static final int MOST_TEAMS = 8;
    private static final int MOST_PLAYERS = 20;
    private static final int MOST_TEAM_PLAYERS = 4;
    private static final int MOST_MATCHES = 40;
    // A ruling ends its tossup or blocks one of two teams, so that no tossup has a third.
    private static final int MOST_RULINGS = 2 * MOST_PACKED;
    private static final int MOST_PROTESTS = 4;
    private static final int MOST_KNOWLEDGE = 9;
    private static final int MOST_REACTION = 99999;
    private static final int MOST_TIME = 9999999;
    private static final int SHINGLE_WORDS = 3;
    private static final int TOO_MANY_REPEATS = 2;
    private static final int LETTERS_A_CHANGE = 6;
    private static final int POWER_WORTH = 15;
    private static final int PLAIN_WORTH = 10;
    private static final int EARLY_WRONG_WORTH = -5;
    private static final int PART_WORTH = 10;
    private static final int BONUS_PARTS = 3;
    private static final int LEAST_SUSPICIOUS = 2;
    // Far above the steps that Euclid takes for any two numbers of type long.
    private static final int MOST_STEPS = 1000;

    private final Text text;
    private final Question[] questions;
    private int questionCount;
    private final int[] quotas;
    private final Packet[] packets;
    private int packetCount;
    private final Setter setter;
    private final Team[] teams;
    private int teamCount;
    private final Player[] players;
    private int playerCount;
    private final Match[] matches;
    private int matchCount;
    private final Tossup tossup;
    private final Table table;
    private final Ratings ratings;

    public TossupHall() {
        text = new Text();
        questions = new Question[MOST_QUESTIONS];
        quotas = new int[CATEGORIES];
        packets = new Packet[MOST_PACKETS];
        setter = new Setter();
        teams = new Team[MOST_TEAMS];
        players = new Player[MOST_PLAYERS];
        matches = new Match[MOST_MATCHES];
        tossup = new Tossup();
        table = new Table();
        ratings = new Ratings();
    }

    // ---- questions

    public int question(int category, int theme) throws IllegalArgumentException, IllegalStateException {
        if (!isCategory(category) || theme < 0 || theme >= THEMES) {
            throw new IllegalArgumentException("no such category or theme");
        }
        if (questionCount >= MOST_QUESTIONS) {
            throw new IllegalStateException("there are 24 questions");
        }
        questions[questionCount] = new Question(category, theme);
        questionCount++;
        return questionCount - 1;
    }

    public int word(int question, int word) throws IndexOutOfBoundsException, IllegalArgumentException, UnsupportedOperationException, IllegalStateException {
        Question changed = questionAt(question);
        if (word < 0 || word >= WORD_NUMBERS) {
            throw new IllegalArgumentException("no such word");
        }
        if (changed.isPacked) {
            throw new UnsupportedOperationException("the question is in a packet");
        }
        if (changed.wordCount >= MOST_WORDS) {
            throw new IllegalStateException("the question has 40 words");
        }
        changed.addWord(word);
        return changed.wordCount;
    }

    public int power(int question, int mark) throws IndexOutOfBoundsException, IllegalArgumentException {
        Question changed = questionAt(question);
        if (mark < 0 || mark > MOST_WORDS) {
            throw new IllegalArgumentException("no such mark");
        }
        int before = changed.mark;
        changed.mark = mark;
        return before;
    }

    public int repeats(int question, int other) throws IndexOutOfBoundsException {
        return questionAt(question).countShared(questionAt(other));
    }

    public int type(char letter) throws IllegalArgumentException, IllegalStateException {
        if (letter < 'a' || letter > 'z') {
            throw new IllegalArgumentException("no such letter");
        }
        if (text.length >= MOST_LETTERS) {
            throw new IllegalStateException("the text has 12 letters");
        }
        text.add(letter);
        return text.length;
    }

    public int wipe() {
        int before = text.length;
        text.clear();
        return before;
    }

    public int line(int question, char kind) throws IndexOutOfBoundsException, IllegalArgumentException, UnsupportedOperationException, IllegalStateException {
        Question changed = questionAt(question);
        if (kind != 'a' && kind != 'p' && kind != 'n') {
            throw new IllegalArgumentException("no such kind");
        }
        refuseNoText();
        if (changed.lineCount >= MOST_LINES && changed.placeOfLine(text) == NONE) {
            throw new IllegalStateException("there are 6 other lines");
        }
        changed.putLine(text, kind);
        text.clear();
        return changed.lineCount;
    }

    public char judge(int question) throws IndexOutOfBoundsException, UnsupportedOperationException {
        Question asked = questionAt(question);
        refuseNoText();
        char verdict = asked.verdictOn(text);
        text.clear();
        return verdict;
    }

    // ---- packets

    public int quota(int category, int quota) throws IllegalArgumentException {
        if (!isCategory(category) || quota < 0 || quota > MOST_PACKED) {
            throw new IllegalArgumentException("no such category or quota");
        }
        int sum = sumOf(quotas) - quotas[category] + quota;
        if (sum > MOST_PACKED) {
            throw new IllegalArgumentException("the sum would be more than 10");
        }
        quotas[category] = quota;
        return sum;
    }

    public int packet() throws UnsupportedOperationException, NoSuchElementException, IllegalStateException {
        if (sumOf(quotas) == 0) {
            throw new UnsupportedOperationException("the quotas sum to 0");
        }
        if (!setter.findOrder(questions, questionCount, quotas)) {
            throw new NoSuchElementException("there is no such order");
        }
        if (packetCount >= MOST_PACKETS) {
            throw new IllegalStateException("there are 4 packets");
        }
        Packet added = new Packet(setter.order, setter.size);
        for (int place = 0; place < added.size; place++) {
            questions[added.order[place]].isPacked = true;
        }
        packets[packetCount] = added;
        packetCount++;
        return packetCount - 1;
    }

    public int packed(int packet, int place) throws IndexOutOfBoundsException {
        Packet held = packetAt(packet);
        if (place < 0 || place >= held.size) {
            throw new IndexOutOfBoundsException("no such place");
        }
        return held.order[place];
    }

    public int questions(int packet) throws IndexOutOfBoundsException {
        return packetAt(packet).size;
    }

    // ---- teams

    public int team(int school) throws IllegalArgumentException, IllegalStateException {
        if (school < 0 || school >= SCHOOLS) {
            throw new IllegalArgumentException("no such school");
        }
        if (teamCount >= MOST_TEAMS) {
            throw new IllegalStateException("there are 8 teams");
        }
        teams[teamCount] = new Team(school);
        teamCount++;
        return teamCount - 1;
    }

    public int player(int team, int reaction) throws IndexOutOfBoundsException, IllegalArgumentException, IllegalStateException {
        Team joined = teamAt(team);
        if (reaction < 0 || reaction > MOST_REACTION) {
            throw new IllegalArgumentException("no such reaction");
        }
        if (playerCount >= MOST_PLAYERS || joined.playerCount >= MOST_TEAM_PLAYERS || tossup.isMatchOn()) {
            throw new IllegalStateException("no player can come now");
        }
        players[playerCount] = new Player(team, reaction);
        joined.playerCount++;
        playerCount++;
        return playerCount - 1;
    }

    public int know(int player, int category, int knowledge) throws IndexOutOfBoundsException, IllegalArgumentException {
        Player changed = playerAt(player);
        if (!isCategory(category) || knowledge < 0 || knowledge > MOST_KNOWLEDGE) {
            throw new IllegalArgumentException("no such category or knowledge");
        }
        int before = changed.knowledge[category];
        changed.knowledge[category] = knowledge;
        return before;
    }

    public boolean see(int player, int question) throws IndexOutOfBoundsException {
        Player changed = playerAt(player);
        questionAt(question);
        int bit = 1 << question;
        boolean isNew = (changed.seenBits & bit) == 0;
        changed.seenBits |= bit;
        return isNew;
    }

    public int seen(int player) throws IndexOutOfBoundsException {
        return Integer.bitCount(playerAt(player).seenBits);
    }

    public boolean canPlay(int team, int packet) throws IndexOutOfBoundsException {
        teamAt(team);
        return isFitFor(team, packetAt(packet));
    }

    // ---- matches

    public int match(int team, int other, int packet) throws IndexOutOfBoundsException, IllegalArgumentException, UnsupportedOperationException, IllegalStateException {
        teamAt(team);
        teamAt(other);
        Packet played = packetAt(packet);
        if (team == other) {
            throw new IllegalArgumentException("a team cannot play itself");
        }
        if (!isFitFor(team, played) || !isFitFor(other, played)) {
            throw new UnsupportedOperationException("a team cannot play the packet");
        }
        if (tossup.isMatchOn() || matchCount >= MOST_MATCHES) {
            throw new IllegalStateException("no match can begin now");
        }
        Match begun = new Match(team, other);
        matches[matchCount] = begun;
        matchCount++;
        tossup.beginMatch(begun, played);
        return matchCount - 1;
    }

    public int read(int words) throws IllegalStateException, IllegalArgumentException {
        if (!tossup.isOn() || tossup.isAnswered() || tossup.buzzCount > 0) {
            throw new IllegalStateException("no word can be read now");
        }
        if (words < 1 || words > MOST_WORDS) {
            throw new IllegalArgumentException("no such number of words");
        }
        int number = tossup.questionNumber();
        tossup.wordsRead = Math.min(tossup.wordsRead + words, questions[number].wordCount);
        if (tossup.wordsRead > 0) {
            tossup.match.heardBits |= 1 << number;
        }
        return tossup.wordsRead;
    }

    public int buzz(int player, int time) throws IllegalStateException, IndexOutOfBoundsException, IllegalArgumentException, UnsupportedOperationException {
        if (!tossup.isOn() || tossup.wordsRead == 0 || tossup.isAnswered()) {
            throw new IllegalStateException("nobody can buzz now");
        }
        Player buzzer = playerAt(player);
        if (time < 0 || time > MOST_TIME) {
            throw new IllegalArgumentException("no such time");
        }
        int side = tossup.match.sideOf(buzzer.team);
        if (side == NONE || tossup.isBlocked(side) || tossup.times[player] != NONE) {
            throw new UnsupportedOperationException("the player cannot buzz");
        }
        tossup.times[player] = time;
        tossup.buzzCount++;
        return tossup.buzzCount;
    }

    public int lock() throws IllegalStateException, NoSuchElementException {
        if (!tossup.isOn() || tossup.isAnswered()) {
            throw new IllegalStateException("no buzzes can be locked now");
        }
        if (tossup.buzzCount == 0) {
            throw new NoSuchElementException("no buzz was told");
        }
        tossup.answerer = firstBuzzer();
        tossup.isPrompted = false;
        tossup.forgetBuzzes();
        return tossup.answerer;
    }

    public char answer() throws IllegalStateException, UnsupportedOperationException {
        if (!tossup.isOn() || !tossup.isAnswered()) {
            throw new IllegalStateException("nobody answers");
        }
        refuseNoText();
        char verdict = questions[tossup.questionNumber()].verdictOn(text);
        text.clear();
        if (verdict == 'p' && !tossup.isPrompted) {
            tossup.isPrompted = true;
            return verdict;
        }
        giveRuling(verdict == 'r');
        return verdict == 'r' ? 'r' : 'w';
    }

    public int dead() throws IllegalStateException {
        if (!tossup.isOn() || tossup.isAnswered() || tossup.wordsRead < questions[tossup.questionNumber()].wordCount) {
            throw new IllegalStateException("the tossup is not over");
        }
        beginNextTossup();
        return tossup.isMatchOn() ? tossup.place : NONE;
    }

    public int part(boolean isRight) throws IllegalStateException {
        if (!tossup.isBonusOn()) {
            throw new IllegalStateException("no bonus is on");
        }
        if (isRight) {
            tossup.match.addBonus(tossup.isBounced ? 1 - tossup.bonusSide : tossup.bonusSide);
        }
        if (isRight || tossup.isBounced) {
            tossup.partsOver++;
            tossup.isBounced = false;
        } else {
            tossup.isBounced = true;
        }
        int over = tossup.partsOver;
        if (over >= BONUS_PARTS) {
            beginNextTossup();
        }
        return over;
    }

    public int end() throws IllegalStateException {
        if (!tossup.isOn() || tossup.wordsRead > 0) {
            throw new IllegalStateException("the match cannot end now");
        }
        int heard = tossup.match.countHeard();
        endMatch();
        return heard;
    }

    public char phase() {
        if (!tossup.isMatchOn()) {
            return '-';
        }
        if (tossup.isBonusOn()) {
            return 'o';
        }
        if (tossup.isAnswered()) {
            return 'a';
        }
        return tossup.buzzCount > 0 ? 'b' : 't';
    }

    public int score(int match, boolean isOther) throws IndexOutOfBoundsException {
        return matchAt(match).scores[isOther ? 1 : 0];
    }

    public int rulings(int match) throws IndexOutOfBoundsException {
        return matchAt(match).rulingCount;
    }

    public int ruling(int match, int ruling, char what) throws IndexOutOfBoundsException, IllegalArgumentException {
        Ruling given = rulingAt(matchAt(match), ruling);
        if (what == 'p') {
            return given.player;
        }
        if (what == 'w') {
            return given.wordsRead;
        }
        if (what == 'r') {
            return given.isRight ? 1 : 0;
        }
        if (what == 'q') {
            return given.question;
        }
        throw new IllegalArgumentException("no such letter");
    }

    // ---- protests

    public int protest(int ruling) throws IllegalStateException, IndexOutOfBoundsException, UnsupportedOperationException {
        if (matchCount == 0) {
            throw new IllegalStateException("there was no match");
        }
        Match last = matches[matchCount - 1];
        rulingAt(last, ruling);
        if (last.placeOfProtest(ruling) != NONE || last.protestCount >= MOST_PROTESTS) {
            throw new UnsupportedOperationException("no protest can be lodged");
        }
        last.addProtest(ruling);
        return last.protestCount;
    }

    public int resolve(int match, int ruling, boolean isUpheld) throws IndexOutOfBoundsException, UnsupportedOperationException {
        Match resolved = matchAt(match);
        rulingAt(resolved, ruling);
        int protest = resolved.placeOfProtest(ruling);
        if (protest == NONE || resolved.isResolved(protest) || !resolved.isOver) {
            throw new UnsupportedOperationException("there is no protest to resolve");
        }
        resolved.resolveProtest(protest, isUpheld);
        return resolved.scores[0];
    }

    public boolean matters(int match) throws IndexOutOfBoundsException {
        return matchAt(match).isWinnerOpen();
    }

    public int scoreIf(int match, int rulings, boolean isOther) throws IndexOutOfBoundsException {
        return matchAt(match).scoreUnder(rulings, isOther ? 1 : 0);
    }

    // ---- standings and figures

    public int ranked(int pool, int rank) throws IllegalArgumentException, IndexOutOfBoundsException {
        if (pool < 0 || pool >= POOLS) {
            throw new IllegalArgumentException("no such pool");
        }
        table.rank(this, true);
        int place = 0;
        for (int i = 0; i < teamCount; i++) {
            int next = table.order[i];
            if (teams[next].pool == pool) {
                if (place == rank) {
                    return next;
                }
                place++;
            }
        }
        throw new IndexOutOfBoundsException("no such rank");
    }

    public int pools(int pools) throws IllegalArgumentException, IllegalStateException {
        if (pools < 1 || pools > POOLS) {
            throw new IllegalArgumentException("no such number of pools");
        }
        if (tossup.isMatchOn()) {
            throw new IllegalStateException("a match goes on");
        }
        table.rank(this, false);
        int least = teamCount / pools;
        int larger = teamCount % pools;
        int rank = 0;
        for (int pool = 0; pool < pools; pool++) {
            int after = rank + least + (pool < larger ? 1 : 0);
            for (; rank < after && rank < teamCount; rank++) {
                teams[table.order[rank]].pool = pool;
            }
        }
        return least + (larger > 0 ? 1 : 0);
    }

    public int poolOf(int team) throws IndexOutOfBoundsException {
        return teamAt(team).pool;
    }

    public long rating(int team, boolean isLower) throws IndexOutOfBoundsException {
        teamAt(team);
        ratings.solve(matches, matchCount, teamCount);
        return isLower ? ratings.lowerOf(team) : ratings.upperOf(team);
    }

    public int count(int player, char what) throws IndexOutOfBoundsException, IllegalArgumentException {
        Player counted = playerAt(player);
        if (what == 'p') {
            return countRulings(player, true, POWER_WORTH);
        }
        if (what == 't') {
            return countRulings(player, true, PLAIN_WORTH);
        }
        if (what == 'n') {
            return countRulings(player, false, EARLY_WRONG_WORTH);
        }
        if (what == 'w') {
            return countRulings(player, false, 0);
        }
        if (what == 'e') {
            return countEarly(player);
        }
        if (what == 'h') {
            return countHeardBy(counted.team);
        }
        throw new IllegalArgumentException("no such letter");
    }

    public boolean isSuspect(int player) throws IndexOutOfBoundsException {
        playerAt(player);
        int early = countEarly(player);
        int right = countRulings(player, true, POWER_WORTH) + countRulings(player, true, PLAIN_WORTH);
        return early >= LEAST_SUSPICIOUS && 2 * early > right;
    }

    public int best(int player, int question) throws IndexOutOfBoundsException, UnsupportedOperationException {
        Player buzzer = playerAt(player);
        Question asked = questionAt(question);
        if (asked.wordCount == 0) {
            throw new UnsupportedOperationException("the question has no words");
        }
        int knowledge = buzzer.knowledge[asked.category];
        int bestWord = 1;
        for (int word = 2; word <= asked.wordCount; word++) {
            if (asked.worthOfBuzz(word, knowledge) > asked.worthOfBuzz(bestWord, knowledge)) {
                bestWord = word;
            }
        }
        return bestWord;
    }

    public float share() throws ArithmeticException {
        int heard = 0;
        int right = 0;
        for (int i = 0; i < matchCount; i++) {
            heard += matches[i].countHeard();
            right += matches[i].countRight();
        }
        if (heard == 0) {
            throw new ArithmeticException("no tossup was heard");
        }
        return (float) right / (float) heard;
    }

    public double meanWords() throws ArithmeticException {
        int words = 0;
        int right = 0;
        for (int i = 0; i < matchCount; i++) {
            words += matches[i].sumRightWords();
            right += matches[i].countRight();
        }
        if (right == 0) {
            throw new ArithmeticException("there was no right answer");
        }
        return (double) words / (double) right;
    }

    public boolean isSound() {
        ratings.solve(matches, matchCount, teamCount);
        return areScoresSound() && arePacketsApart() && ratings.areSolved(matches, matchCount);
    }

    // ---- what stands at a number

    private Question questionAt(int number) {
        if (number < 0 || number >= questionCount) {
            throw new IndexOutOfBoundsException("no such question");
        }
        return questions[number];
    }

    private Packet packetAt(int number) {
        if (number < 0 || number >= packetCount) {
            throw new IndexOutOfBoundsException("no such packet");
        }
        return packets[number];
    }

    private Team teamAt(int number) {
        if (number < 0 || number >= teamCount) {
            throw new IndexOutOfBoundsException("no such team");
        }
        return teams[number];
    }

    private Player playerAt(int number) {
        if (number < 0 || number >= playerCount) {
            throw new IndexOutOfBoundsException("no such player");
        }
        return players[number];
    }

    private Match matchAt(int number) {
        if (number < 0 || number >= matchCount) {
            throw new IndexOutOfBoundsException("no such match");
        }
        return matches[number];
    }

    private static Ruling rulingAt(Match match, int number) {
        if (number < 0 || number >= match.rulingCount) {
            throw new IndexOutOfBoundsException("no such ruling");
        }
        return match.log[number];
    }

    private static boolean isCategory(int category) {
        return category >= 0 && category < CATEGORIES;
    }

    private void refuseNoText() {
        if (text.length == 0) {
            throw new UnsupportedOperationException("the text is empty");
        }
    }

    private static int sumOf(int[] numbers) {
        int sum = 0;
        for (int number : numbers) {
            sum += number;
        }
        return sum;
    }

    // ---- how a match goes on

    private boolean isFitFor(int team, Packet packet) {
        for (int i = 0; i < playerCount; i++) {
            if (players[i].team == team && (players[i].seenBits & packet.bits) != 0) {
                return false;
            }
        }
        return teams[team].playerCount > 0;
    }

    private int firstBuzzer() {
        int first = NONE;
        int least = 0;
        for (int i = 0; i < playerCount; i++) {
            if (tossup.times[i] != NONE) {
                int whole = tossup.times[i] + players[i].reaction;
                if (first == NONE || whole < least) {
                    first = i;
                    least = whole;
                }
            }
        }
        return first;
    }

    private void giveRuling(boolean isRight) {
        int number = tossup.questionNumber();
        Question asked = questions[number];
        int side = tossup.match.sideOf(players[tossup.answerer].team);
        Ruling given = new Ruling(tossup.answerer, side, number, tossup.wordsRead, isRight);
        given.rightWorth = asked.worthOfRight(tossup.wordsRead);
        boolean costs = tossup.wordsRead < asked.wordCount && !tossup.isBlocked(1 - side);
        given.wrongWorth = costs ? EARLY_WRONG_WORTH : 0;
        tossup.match.addRuling(given);
        tossup.answerer = NONE;
        if (isRight) {
            tossup.bonusSide = side;
            return;
        }
        tossup.block(side);
        if (tossup.isBlocked(1 - side)) {
            beginNextTossup();
        }
    }

    private void beginNextTossup() {
        int next = tossup.place + 1;
        if (tossup.packet != null && next < tossup.packet.size) {
            tossup.beginAt(next);
        } else {
            endMatch();
        }
    }

    private void endMatch() {
        Match ended = tossup.match;
        tossup.leaveMatch();
        if (ended == null) {
            return;
        }
        for (int i = 0; i < playerCount; i++) {
            if (ended.sideOf(players[i].team) != NONE) {
                players[i].seenBits |= ended.heardBits;
            }
        }
        ended.isOver = true;
    }

    // ---- what the log tells

    private int countRulings(int player, boolean isRight, int worth) {
        int found = 0;
        for (int i = 0; i < matchCount; i++) {
            Match held = matches[i];
            for (int j = 0; j < held.rulingCount; j++) {
                Ruling given = held.log[j];
                if (given.player == player && given.isRight == isRight && given.worthIf(isRight) == worth) {
                    found++;
                }
            }
        }
        return found;
    }

    private int countEarly(int player) {
        int found = 0;
        for (int i = 0; i < matchCount; i++) {
            Match held = matches[i];
            for (int j = 0; j < held.rulingCount; j++) {
                Ruling given = held.log[j];
                if (given.player == player && given.isRight && isEarly(given)) {
                    found++;
                }
            }
        }
        return found;
    }

    private boolean isEarly(Ruling given) {
        Question asked = questions[given.question];
        int unknown = MOST_KNOWLEDGE - players[given.player].knowledge[asked.category];
        return given.wordsRead < asked.wordCount * unknown / 12;
    }

    private int countHeardBy(int team) {
        int heard = 0;
        for (int i = 0; i < matchCount; i++) {
            if (matches[i].sideOf(team) != NONE) {
                heard += matches[i].countHeard();
            }
        }
        return heard;
    }

    private boolean areScoresSound() {
        for (int i = 0; i < matchCount; i++) {
            Match held = matches[i];
            for (int side = 0; side < SIDES; side++) {
                if (held.scores[side] != held.scoreUnder(held.upheldBits, side)) {
                    return false;
                }
            }
        }
        return true;
    }

    private boolean arePacketsApart() {
        int found = 0;
        for (int i = 0; i < packetCount; i++) {
            if ((found & packets[i].bits) != 0) {
                return false;
            }
            found |= packets[i].bits;
        }
        return true;
    }

    /** A row of letters, typed or held as a line. */
    private static final class Text {
        final char[] letters;
        int length;

        Text() {
            letters = new char[MOST_LETTERS];
        }

        void add(char letter) {
            if (length < letters.length) {
                letters[length] = letter;
                length++;
            }
        }

        void clear() {
            length = 0;
        }

        Text copied() {
            Text copy = new Text();
            for (int i = 0; i < length; i++) {
                copy.add(letters[i]);
            }
            return copy;
        }

        /** Whether so many changes of one letter at most make the rest of one text the rest of the other. */
        private static boolean isNear(Text one, int from, Text other, int otherFrom, int changes) {
            int i = from;
            int j = otherFrom;
            // Letters that are alike never need a change, so that only what differs branches.
            while (i < one.length && j < other.length && one.letters[i] == other.letters[j]) {
                i++;
                j++;
            }
            if (i >= one.length && j >= other.length) {
                return true;
            }
            if (changes <= 0) {
                return false;
            }
            return i < one.length && j < other.length && isNear(one, i + 1, other, j + 1, changes - 1)
                || i < one.length && isNear(one, i + 1, other, j, changes - 1)
                || j < other.length && isNear(one, i, other, j + 1, changes - 1);
        }

        boolean isWithin(Text other, int changes) {
            return isNear(this, 0, other, 0, changes);
        }
    }

    /** A question with its words, its shingles and the lines that judge answers. */
    private static final class Question {
        final int category;
        final int theme;
        int mark;
        boolean isPacked;
        final int[] words;
        int wordCount;
        // Rising and unlike, so that two questions are compared in one walk.
        final int[] shingles;
        int shingleCount;
        final Text[] lines;
        final char[] kinds;
        int lineCount;

        Question(int category, int theme) {
            this.category = category;
            this.theme = theme;
            words = new int[MOST_WORDS];
            shingles = new int[MOST_WORDS];
            lines = new Text[MOST_LINES];
            kinds = new char[MOST_LINES];
        }

        void addWord(int word) {
            if (wordCount >= words.length) {
                return;
            }
            words[wordCount] = word;
            wordCount++;
            if (wordCount >= SHINGLE_WORDS) {
                int shingle = 0;
                for (int i = wordCount - SHINGLE_WORDS; i < wordCount; i++) {
                    shingle = shingle * WORD_NUMBERS + words[i];
                }
                addShingle(shingle);
            }
        }

        private void addShingle(int shingle) {
            int place = 0;
            while (place < shingleCount && shingles[place] < shingle) {
                place++;
            }
            boolean isKnown = place < shingleCount && shingles[place] == shingle;
            if (isKnown || shingleCount >= shingles.length) {
                return;
            }
            for (int i = shingleCount; i > place; i--) {
                shingles[i] = shingles[i - 1];
            }
            shingles[place] = shingle;
            shingleCount++;
        }

        int countShared(Question other) {
            int shared = 0;
            int i = 0;
            int j = 0;
            while (i < shingleCount && j < other.shingleCount) {
                int order = Integer.compare(shingles[i], other.shingles[j]);
                if (order == 0) {
                    shared++;
                }
                if (order <= 0) {
                    i++;
                }
                if (order >= 0) {
                    j++;
                }
            }
            return shared;
        }

        boolean clashesWith(Question other) {
            return theme == other.theme || countShared(other) >= TOO_MANY_REPEATS;
        }

        int placeOfLine(Text text) {
            for (int i = 0; i < lineCount; i++) {
                if (lines[i].isWithin(text, 0)) {
                    return i;
                }
            }
            return NONE;
        }

        void putLine(Text text, char kind) {
            int place = placeOfLine(text);
            if (place != NONE) {
                kinds[place] = kind;
            } else if (lineCount < MOST_LINES) {
                lines[lineCount] = text.copied();
                kinds[lineCount] = kind;
                lineCount++;
            }
        }

        char verdictOn(Text text) {
            int place = placeOfLine(text);
            char kind = place == NONE ? '-' : kinds[place];
            if (kind == 'n') {
                return 'w';
            }
            if (isAccepted(text)) {
                return 'r';
            }
            return kind == 'p' ? 'p' : 'w';
        }

        private boolean isAccepted(Text text) {
            for (int i = 0; i < lineCount; i++) {
                if (kinds[i] == 'a' && lines[i].isWithin(text, lines[i].length / LETTERS_A_CHANGE)) {
                    return true;
                }
            }
            return false;
        }

        int worthOfRight(int wordsRead) {
            return wordsRead < mark ? POWER_WORTH : PLAIN_WORTH;
        }

        int worthOfBuzz(int wordsRead, int knowledge) {
            int known = Math.min(knowledge * wordsRead, MOST_KNOWLEDGE * wordCount);
            int loss = wordsRead == wordCount ? 0 : -EARLY_WRONG_WORTH;
            int gain = known * worthOfRight(wordsRead) - (10 * wordCount - known) * loss;
            return (2 * wordCount - wordsRead) * gain;
        }
    }

    /** Questions in the order in which a match plays them. */
    private static final class Packet {
        final int[] order;
        final int size;
        final int bits;

        Packet(int[] order, int size) {
            this.order = new int[MOST_PACKED];
            this.size = Math.min(size, MOST_PACKED);
            int found = 0;
            for (int i = 0; i < this.size && i < order.length; i++) {
                this.order[i] = order[i];
                found |= 1 << order[i];
            }
            bits = found;
        }
    }

    /**
     * Finds the first order that a packet may have. Which categories follow each other depends on the quotas
     * alone, and which questions clash depends on the choice alone: so whether a beginning can be
     * completed is asked of both apart, and no beginning has to be taken back.
     */
    private static final class Setter {
        final int[] categories;
        final int[] clashes;
        final int[] ofCategory;
        final int[] needs;
        final int[] order;
        int size;

        Setter() {
            categories = new int[MOST_QUESTIONS];
            clashes = new int[MOST_QUESTIONS];
            ofCategory = new int[CATEGORIES];
            needs = new int[CATEGORIES];
            order = new int[MOST_PACKED];
        }

        boolean findOrder(Question[] questions, int count, int[] quotas) {
            int open = noteQuestions(questions, count);
            System.arraycopy(quotas, 0, needs, 0, CATEGORIES);
            size = 0;
            int places = sumOf(needs);
            int last = NONE;
            if (places > MOST_PACKED || !canAlternate(last) || !canFill(this, open, 0)) {
                return false;
            }
            for (int place = 0; place < places; place++) {
                int next = firstFit(open, last);
                if (next == NONE) {
                    return false;
                }
                last = categories[next];
                needs[last]--;
                open = without(open, next);
                order[place] = next;
            }
            size = places;
            return true;
        }

        /** Notes who clashes with whom, and gives the bits of the questions that are in no packet. */
        private int noteQuestions(Question[] questions, int count) {
            int open = 0;
            for (int i = 0; i < CATEGORIES; i++) {
                ofCategory[i] = 0;
            }
            for (int i = 0; i < count; i++) {
                Question noted = questions[i];
                categories[i] = noted.category;
                clashes[i] = 0;
                if (!noted.isPacked) {
                    open |= 1 << i;
                    ofCategory[noted.category] |= 1 << i;
                    noteClashes(questions, i);
                }
            }
            return open;
        }

        private void noteClashes(Question[] questions, int number) {
            for (int i = 0; i < number; i++) {
                if (!questions[i].isPacked && questions[i].clashesWith(questions[number])) {
                    clashes[i] |= 1 << number;
                    clashes[number] |= 1 << i;
                }
            }
        }

        private int without(int open, int number) {
            return open & ~clashes[number] & ~(1 << number);
        }

        private int firstFit(int open, int last) {
            for (int i = 0; i < MOST_QUESTIONS; i++) {
                if ((open >> i & 1) != 0 && categories[i] != last && isFit(i, open)) {
                    return i;
                }
            }
            return NONE;
        }

        private boolean isFit(int number, int open) {
            int category = categories[number];
            if (needs[category] == 0) {
                return false;
            }
            needs[category]--;
            boolean isFit = canAlternate(category) && canFill(this, without(open, number), 0);
            needs[category]++;
            return isFit;
        }

        /** Whether what is needed can stand in a row behind a category without two neighbours alike. */
        private boolean canAlternate(int last) {
            int places = sumOf(needs);
            for (int i = 0; i < CATEGORIES; i++) {
                if (needs[i] > (i == last ? places : places + 1) / 2) {
                    return false;
                }
            }
            return true;
        }

        /** Whether the open questions hold as many as are needed of each category, none of which clash. */
        private static boolean canFill(Setter setter, int open, int depth) {
            int useful = setter.usefulOf(open);
            if (useful == NONE || depth > MOST_QUESTIONS) {
                return false;
            }
            int hub = setter.mostClashing(useful);
            if (hub == NONE) {
                return true;
            }
            int category = setter.categories[hub];
            setter.needs[category]--;
            boolean isFilled = canFill(setter, setter.without(useful, hub), depth + 1);
            setter.needs[category]++;
            return isFilled || canFill(setter, useful & ~(1 << hub), depth + 1);
        }

        /** The open questions of the categories that are needed, or NONE if one has too few. */
        private int usefulOf(int open) {
            int useful = 0;
            for (int i = 0; i < CATEGORIES; i++) {
                if (needs[i] > 0) {
                    int these = open & ofCategory[i];
                    if (Integer.bitCount(these) < needs[i]) {
                        return NONE;
                    }
                    useful |= these;
                }
            }
            return useful;
        }

        private int mostClashing(int useful) {
            int hub = NONE;
            int most = 0;
            for (int i = 0; i < MOST_QUESTIONS; i++) {
                if ((useful >> i & 1) != 0) {
                    int found = Integer.bitCount(clashes[i] & useful);
                    if (found > most) {
                        hub = i;
                        most = found;
                    }
                }
            }
            return hub;
        }
    }

    /** A team of a school, in a pool. */
    private static final class Team {
        final int school;
        int pool;
        int playerCount;

        Team(int school) {
            this.school = school;
        }
    }

    /** A player with what they know and have seen. */
    private static final class Player {
        final int team;
        final int reaction;
        final int[] knowledge;
        int seenBits;

        Player(int team, int reaction) {
            this.team = team;
            this.reaction = reaction;
            knowledge = new int[CATEGORIES];
        }
    }

    /** An answer as it was ruled, with what it would have brought either way and the bonus that it won. */
    private static final class Ruling {
        final int player;
        final int side;
        final int question;
        final int wordsRead;
        final boolean isRight;
        int rightWorth;
        int wrongWorth;
        final int[] bonus;

        Ruling(int player, int side, int question, int wordsRead, boolean isRight) {
            this.player = player;
            this.side = side;
            this.question = question;
            this.wordsRead = wordsRead;
            this.isRight = isRight;
            bonus = new int[SIDES];
        }

        int worthIf(boolean isTakenRight) {
            return isTakenRight ? rightWorth : wrongWorth;
        }

        int worthFor(int forSide, boolean isUpheld) {
            int own = forSide == side ? worthIf(isRight != isUpheld) : 0;
            return isUpheld ? own : own + bonus[forSide];
        }
    }

    /** A match with its log and its protests. */
    private static final class Match {
        final int first;
        final int other;
        boolean isOver;
        int heardBits;
        final int[] scores;
        final Ruling[] log;
        int rulingCount;
        final int[] protested;
        int protestCount;
        int resolvedBits;
        int upheldBits;

        Match(int first, int other) {
            this.first = first;
            this.other = other;
            scores = new int[SIDES];
            log = new Ruling[MOST_RULINGS];
            protested = new int[MOST_PROTESTS];
        }

        int sideOf(int team) {
            if (team == first) {
                return 0;
            }
            return team == other ? 1 : NONE;
        }

        int countHeard() {
            return Integer.bitCount(heardBits);
        }

        void addRuling(Ruling given) {
            if (rulingCount < log.length) {
                log[rulingCount] = given;
                rulingCount++;
                scores[given.side] += given.worthIf(given.isRight);
            }
        }

        /** A bonus belongs to the right ruling that won it, which is the last one as long as it is heard. */
        void addBonus(int side) {
            if (rulingCount > 0) {
                log[rulingCount - 1].bonus[side] += PART_WORTH;
                scores[side] += PART_WORTH;
            }
        }

        int placeOfProtest(int ruling) {
            for (int i = 0; i < protestCount; i++) {
                if (protested[i] == ruling) {
                    return i;
                }
            }
            return NONE;
        }

        void addProtest(int ruling) {
            if (protestCount < protested.length) {
                protested[protestCount] = ruling;
                protestCount++;
            }
        }

        boolean isResolved(int protest) {
            return (resolvedBits >> protest & 1) != 0;
        }

        void resolveProtest(int protest, boolean isUpheld) {
            resolvedBits |= 1 << protest;
            if (isUpheld) {
                upheldBits |= 1 << protest;
                for (int side = 0; side < SIDES; side++) {
                    scores[side] = scoreUnder(upheldBits, side);
                }
            }
        }

        /** The score that the log tells if just the protests of the bits are upheld. */
        int scoreUnder(int outcome, int side) {
            int sum = 0;
            int settled = NONE;
            for (int i = 0; i < rulingCount; i++) {
                Ruling given = log[i];
                // A question is played once in a match, so that it stands for its tossup.
                if (given.question != settled) {
                    boolean isUpheld = isUpheldUnder(outcome, i);
                    sum += given.worthFor(side, isUpheld);
                    if (isUpheld) {
                        settled = given.question;
                    }
                }
            }
            return sum;
        }

        private boolean isUpheldUnder(int outcome, int ruling) {
            int protest = placeOfProtest(ruling);
            return protest != NONE && (outcome >> protest & 1) != 0;
        }

        int winnerUnder(int outcome) {
            return Integer.compare(scoreUnder(outcome, 0), scoreUnder(outcome, 1));
        }

        boolean isWinnerOpen() {
            int winner = winnerUnder(upheldBits);
            for (int outcome = 0; outcome < 1 << protestCount; outcome++) {
                boolean isPossible = (outcome & resolvedBits) == upheldBits;
                if (isPossible && winnerUnder(outcome) != winner) {
                    return true;
                }
            }
            return false;
        }

        int countRight() {
            int right = 0;
            for (int i = 0; i < rulingCount; i++) {
                if (log[i].isRight) {
                    right++;
                }
            }
            return right;
        }

        int sumRightWords() {
            int words = 0;
            for (int i = 0; i < rulingCount; i++) {
                if (log[i].isRight) {
                    words += log[i].wordsRead;
                }
            }
            return words;
        }
    }

    /** The tossup of the match that goes on, with its bonus. */
    private static final class Tossup {
        Match match;
        Packet packet;
        int place;
        int wordsRead;
        int blockedBits;
        final int[] times;
        int buzzCount;
        int answerer;
        boolean isPrompted;
        int bonusSide;
        int partsOver;
        boolean isBounced;

        Tossup() {
            times = new int[MOST_PLAYERS];
            answerer = NONE;
            bonusSide = NONE;
        }

        void beginMatch(Match begun, Packet played) {
            match = begun;
            packet = played;
            beginAt(0);
        }

        void leaveMatch() {
            match = null;
            packet = null;
        }

        void beginAt(int newPlace) {
            place = newPlace;
            wordsRead = 0;
            blockedBits = 0;
            forgetBuzzes();
            answerer = NONE;
            isPrompted = false;
            bonusSide = NONE;
            partsOver = 0;
            isBounced = false;
        }

        void forgetBuzzes() {
            for (int i = 0; i < times.length; i++) {
                times[i] = NONE;
            }
            buzzCount = 0;
        }

        boolean isMatchOn() {
            return match != null;
        }

        boolean isBonusOn() {
            return match != null && bonusSide != NONE;
        }

        boolean isOn() {
            return match != null && packet != null && bonusSide == NONE;
        }

        boolean isAnswered() {
            return answerer != NONE;
        }

        int questionNumber() {
            return packet.order[place];
        }

        boolean isBlocked(int side) {
            return (blockedBits >> side & 1) != 0;
        }

        void block(int side) {
            blockedBits |= 1 << side;
        }
    }

    /** Ranks the teams by the matches that ended. */
    private static final class Table {
        final int[] wins;
        final int[] points;
        final int[] heard;
        final int[] order;

        Table() {
            wins = new int[MOST_TEAMS];
            points = new int[MOST_TEAMS];
            heard = new int[MOST_TEAMS];
            order = new int[MOST_TEAMS];
        }

        void rank(TossupHall hall, boolean isByPool) {
            for (int i = 0; i < MOST_TEAMS; i++) {
                wins[i] = 0;
                points[i] = 0;
                heard[i] = 0;
            }
            for (int i = 0; i < hall.matchCount; i++) {
                Match held = hall.matches[i];
                if (held.isOver) {
                    boolean isForWins = !isByPool || hall.teams[held.first].pool == hall.teams[held.other].pool;
                    addSide(held, held.first, 0, isForWins);
                    addSide(held, held.other, 1, isForWins);
                }
            }
            sort(hall.teamCount);
        }

        private void addSide(Match held, int team, int side, boolean isForWins) {
            points[team] += held.scores[side];
            heard[team] += held.countHeard();
            if (isForWins) {
                wins[team] += 1 + Integer.compare(held.scores[side], held.scores[1 - side]);
            }
        }

        private void sort(int count) {
            for (int team = 0; team < count; team++) {
                int place = team;
                while (place > 0 && isAhead(team, order[place - 1])) {
                    order[place] = order[place - 1];
                    place--;
                }
                order[place] = team;
            }
        }

        /** Whether a team is ahead of one with a lower number, which stays ahead of its equals. */
        private boolean isAhead(int team, int lower) {
            if (wins[team] != wins[lower]) {
                return wins[team] > wins[lower];
            }
            // Points for each tossup are compared as fractions; without a tossup there are no points.
            long own = (long) points[team] * Math.max(heard[lower], 1);
            long others = (long) points[lower] * Math.max(heard[team], 1);
            return own > others;
        }
    }

    /**
     * Solves the ratings in whole numbers: each division of the elimination leaves no rest, and what it leaves
     * is a minor of the equations, which for 8 teams and 40 matches stays far below 2 to the 63.
     */
    private static final class Ratings {
        final long[][] rows;
        int size;
        long scale;

        Ratings() {
            rows = new long[MOST_TEAMS][MOST_TEAMS + 1];
        }

        void solve(Match[] matches, int matchCount, int teamCount) {
            size = teamCount;
            scale = 1;
            for (int i = 0; i < size; i++) {
                for (int j = 0; j < size; j++) {
                    rows[i][j] = i == j ? 2 : 0;
                }
                // The right side is doubled, as half of the wins less the losses is in it.
                rows[i][size] = 2;
            }
            for (int i = 0; i < matchCount; i++) {
                if (matches[i].isOver) {
                    addMatch(matches[i]);
                }
            }
            for (int pivot = 0; pivot < size; pivot++) {
                eliminate(pivot);
            }
        }

        private void addMatch(Match held) {
            int winner = Integer.compare(held.scores[0], held.scores[1]);
            rows[held.first][held.first]++;
            rows[held.other][held.other]++;
            rows[held.first][held.other]--;
            rows[held.other][held.first]--;
            rows[held.first][size] += winner;
            rows[held.other][size] -= winner;
        }

        private void eliminate(int pivot) {
            long lead = rows[pivot][pivot];
            for (int i = 0; i < size; i++) {
                long factor = rows[i][pivot];
                for (int j = 0; j <= size && i != pivot; j++) {
                    long wide = lead * rows[i][j] - factor * rows[pivot][j];
                    rows[i][j] = scale == 0 ? wide : wide / scale;
                }
            }
            scale = lead;
        }

        /** Twice the rating, as a number over the scale. */
        private long doubled(int team) {
            return rows[team][size];
        }

        long upperOf(int team) {
            return lowest(doubled(team), team);
        }

        long lowerOf(int team) {
            return lowest(2 * scale, team);
        }

        private long lowest(long number, int team) {
            long divisor = divisorOf(team);
            return divisor == 0 ? number : number / divisor;
        }

        /** The greatest common divisor, with the sign that makes the lower number positive. */
        private long divisorOf(int team) {
            long one = Math.abs(doubled(team));
            long other = Math.abs(2 * scale);
            for (int i = 0; i < MOST_STEPS && other != 0; i++) {
                long rest = one % other;
                one = other;
                other = rest;
            }
            return scale < 0 ? -one : one;
        }

        boolean areSolved(Match[] matches, int matchCount) {
            for (int team = 0; team < size; team++) {
                long left = 2 * doubled(team);
                long right = 2;
                for (int i = 0; i < matchCount; i++) {
                    Match held = matches[i];
                    int side = held.isOver ? held.sideOf(team) : NONE;
                    if (side != NONE) {
                        left += doubled(team) - doubled(side == 0 ? held.other : held.first);
                        right += Integer.compare(held.scores[side], held.scores[1 - side]);
                    }
                }
                if (left != right * scale) {
                    return false;
                }
            }
            return true;
        }
    }
}
