import java.util.function.Supplier;

/** Promises 1 to 9, sentence by sentence: questions, words, marks, shingles, texts and lines. */
final class QuestionEdges extends Edges {
    private static final String TEXT = "abcdefghijkl";

    private QuestionEdges() {
    }

    private static TossupHall one() {
        TossupHall hall = new TossupHall();
        hall.question(0, 0);
        return hall;
    }

    /** So many questions without words, of all categories in turn and each of its own theme. */
    private static TossupHall some(int questions) {
        TossupHall hall = new TossupHall();
        for (int i = 0; i < questions; i++) {
            hall.question(i % 6, i);
        }
        return hall;
    }

    private static TossupHall typed(int letters) {
        TossupHall hall = one();
        Halls.type(hall, TEXT.substring(0, letters));
        return hall;
    }

    private static TossupHall withWords(int words) {
        TossupHall hall = new TossupHall();
        Halls.question(hall, 0, 0, words);
        return hall;
    }

    private static TossupHall packed(int words) {
        TossupHall hall = withWords(words);
        hall.quota(0, 1);
        hall.packet();
        return hall;
    }

    private static TossupHall withLines(int lines) {
        TossupHall hall = one();
        for (int i = 0; i < lines; i++) {
            Halls.line(hall, 0, 'n', TEXT.substring(i, i + 1));
        }
        return hall;
    }

    // ---- promise 1

    @Promise(value = 1, says = "Creates a hall without questions and teams.")
    private static void p01WithoutQuestionsAndTeams() {
        beyond("question", 0, -1, INDEX, new TossupHall(), (h, v) -> h.power(v, 0));
        beyond("team", 0, -1, INDEX, new TossupHall(), (h, v) -> h.poolOf(v));
        answers("the first question", 0, new TossupHall(), h -> h.question(0, 0));
        answers("the first team", 0, new TossupHall(), h -> h.team(0));
        answers("no match", '-', new TossupHall(), TossupHall::phase);
        answers("no letters", 0, new TossupHall(), TossupHall::wipe);
        answers("no quotas", 0, new TossupHall(), h -> h.quota(0, 0));
        answers("is sound", 1, new TossupHall(), h -> bit(h.isSound()));
    }

    @Promise(value = 1, says = "A method that throws an exception changes nothing.")
    private static void p01EveryCallThatAnEmptyHallRefuses() {
        TossupHall hall = new TossupHall();
        for (int i = 0; i < 2; i++) {
            refuses("word", INDEX, hall, h -> h.word(0, 0));
            refuses("power", INDEX, hall, h -> h.power(0, 0));
            refuses("repeats", INDEX, hall, h -> h.repeats(0, 0));
            refuses("line", INDEX, hall, h -> h.line(0, 'a'));
            refuses("judge", INDEX, hall, h -> h.judge(0));
            refuses("packet", UNSUPPORTED, hall, TossupHall::packet);
            refuses("packed", INDEX, hall, h -> h.packed(0, 0));
            refuses("questions", INDEX, hall, h -> h.questions(0));
            refuses("player", INDEX, hall, h -> h.player(0, 0));
            refuses("know", INDEX, hall, h -> h.know(0, 0, 0));
            refuses("see", INDEX, hall, h -> bit(h.see(0, 0)));
            refuses("seen", INDEX, hall, h -> h.seen(0));
            refuses("canPlay", INDEX, hall, h -> bit(h.canPlay(0, 0)));
            refuses("match", INDEX, hall, h -> h.match(0, 1, 0));
            refuses("read", STATE, hall, h -> h.read(1));
            refuses("buzz", STATE, hall, h -> h.buzz(0, 0));
            refuses("lock", STATE, hall, TossupHall::lock);
            refuses("answer", STATE, hall, TossupHall::answer);
            refuses("dead", STATE, hall, TossupHall::dead);
            refuses("part", STATE, hall, h -> h.part(true));
            refuses("end", STATE, hall, TossupHall::end);
            refuses("score", INDEX, hall, h -> h.score(0, false));
            refuses("rulings", INDEX, hall, h -> h.rulings(0));
            refuses("ruling", INDEX, hall, h -> h.ruling(0, 0, 'p'));
            refuses("protest", STATE, hall, h -> h.protest(0));
            refuses("resolve", INDEX, hall, h -> h.resolve(0, 0, true));
            refuses("matters", INDEX, hall, h -> bit(h.matters(0)));
            refuses("scoreIf", INDEX, hall, h -> h.scoreIf(0, 0, false));
            refuses("ranked", INDEX, hall, h -> h.ranked(0, 0));
            refuses("poolOf", INDEX, hall, h -> h.poolOf(0));
            refuses("rating", INDEX, hall, h -> h.rating(0, false));
            refuses("count", INDEX, hall, h -> h.count(0, 'p'));
            refuses("isSuspect", INDEX, hall, h -> bit(h.isSuspect(0)));
            refuses("best", INDEX, hall, h -> h.best(0, 0));
            refuses("share", ARITHMETIC, hall, h -> (long) h.share());
            refuses("meanWords", ARITHMETIC, hall, h -> (long) h.meanWords());
            answers("a text of which nothing is told", 0, hall, TossupHall::wipe);
        }
    }

    // ---- promise 2

    @Promise(value = 2, says = "Throws IllegalArgumentException if there is no such category or theme")
    private static void p02CategoryAndTheme() {
        range("category", 0, 5, ARGUMENT, TossupHall::new, (h, v) -> h.question(v, 0));
        range("theme", 0, 99, ARGUMENT, TossupHall::new, (h, v) -> h.question(0, v));
        refuses("neither", ARGUMENT, new TossupHall(), h -> h.question(6, 100));
    }

    @Promise(value = 2, says = "Throws IllegalStateException if there are 24")
    private static void p02Full() {
        answers("the 24th", 23, some(23), h -> h.question(5, 99));
        refuses("the 25th", STATE, some(24), h -> h.question(0, 0));
    }

    @Promise(value = 2, says = ORDER)
    private static void p02Order() {
        refuses("the 25th, of no category", ARGUMENT, some(24), h -> h.question(6, 0));
        refuses("the 25th, of no theme", ARGUMENT, some(24), h -> h.question(0, 100));
    }

    @Promise(value = 2, says = "Returns its number.")
    private static void p02Number() {
        TossupHall hall = new TossupHall();
        for (int i = 0; i < 24; i++) {
            answers("of a question", i, hall, h -> h.question(0, 0));
        }
    }

    @Promise(value = 2, says = "Adds a question without words and lines.")
    private static void p02WithoutWordsAndLines() {
        answers("its first word", 1, one(), h -> h.word(0, 0));
        answers("its first line", 1, typed(1), h -> h.line(0, 'a'));
        answers("no line is it", 'w', typed(1), h -> h.judge(0));
    }

    @Promise(value = 2, says = "At most 24 questions have numbers from 0 on, each of a category, 0 to 5, and a theme, 0 to 99, "
        + "with at most 40 words, each a number from 0 to 99, and a mark of power")
    private static void p02Terms() {
        TossupHall hall = some(24);
        for (int i = 0; i < 24; i++) {
            int number = i;
            answers("a mark of 0 at first", 0, hall, h -> h.power(number, 40));
            answers("without words", 0, hall, h -> h.repeats(number, number));
        }
        refuses("question 24", INDEX, hall, h -> h.power(24, 0));
    }

    // ---- promise 3

    @Promise(value = 3, says = "Throws IndexOutOfBoundsException if there is no such question")
    private static void p03Question() {
        range("question", 0, 2, INDEX, () -> some(3), (h, v) -> h.word(v, 0));
        range("question", 0, 23, INDEX, () -> some(24), (h, v) -> h.word(v, 0));
        beyond("question", 0, -1, INDEX, new TossupHall(), (h, v) -> h.word(v, 0));
    }

    @Promise(value = 3, says = "Throws IllegalArgumentException if there is no such word")
    private static void p03Word() {
        range("word", 0, 99, ARGUMENT, QuestionEdges::one, (h, v) -> h.word(0, v));
    }

    @Promise(value = 3, says = "Throws UnsupportedOperationException if it is in a packet")
    private static void p03Packed() {
        refuses("in a packet", UNSUPPORTED, packed(0), h -> h.word(0, 0));
        refuses("in a packet, with words", UNSUPPORTED, packed(3), h -> h.word(0, 0));
        TossupHall hall = packed(3);
        hall.question(0, 1);
        answers("another one", 1, hall, h -> h.word(1, 0));
    }

    @Promise(value = 3, says = "Throws IllegalStateException if it has 40")
    private static void p03Full() {
        answers("the 40th", 40, withWords(39), h -> h.word(0, 99));
        refuses("the 41st", STATE, withWords(40), h -> h.word(0, 0));
    }

    @Promise(value = 3, says = ORDER)
    private static void p03Order() {
        refuses("no question, no word", INDEX, one(), h -> h.word(1, 100));
        refuses("no word, in a packet", ARGUMENT, packed(1), h -> h.word(0, 100));
        refuses("no word, 40 words", ARGUMENT, withWords(40), h -> h.word(0, -1));
        refuses("no word, in a packet, 40 words", ARGUMENT, packed(40), h -> h.word(0, 100));
        refuses("in a packet, 40 words", UNSUPPORTED, packed(40), h -> h.word(0, 0));
    }

    @Promise(value = 3, says = "Returns how many it has.")
    private static void p03HowMany() {
        TossupHall hall = some(2);
        for (int i = 1; i <= 40; i++) {
            answers("words", i, hall, h -> h.word(0, 99));
        }
        answers("words of another one", 1, hall, h -> h.word(1, 99));
    }

    @Promise(value = 3, says = "Adds a word to a question that is in no packet.")
    private static void p03Adds() {
        TossupHall hall = some(2);
        Halls.words(hall, 0, 0, 99, 0);
        Halls.words(hall, 1, 0, 99);
        answers("not yet alike", 0, hall, h -> h.repeats(0, 1));
        answers("the third one", 3, hall, h -> h.word(1, 0));
        answers("alike", 1, hall, h -> h.repeats(0, 1));
    }

    // ---- promise 4

    @Promise(value = 4, says = "Throws IndexOutOfBoundsException if there is no such question")
    private static void p04Question() {
        range("question", 0, 2, INDEX, () -> some(3), (h, v) -> h.power(v, 0));
        range("question", 0, 23, INDEX, () -> some(24), (h, v) -> h.power(v, 0));
        beyond("question", 0, -1, INDEX, new TossupHall(), (h, v) -> h.power(v, 0));
    }

    @Promise(value = 4, says = "Throws IllegalArgumentException if it is out of range")
    private static void p04OutOfRange() {
        TossupHall hall = one();
        hall.power(0, 7);
        beyond("mark", 0, 40, ARGUMENT, hall, (h, v) -> h.power(0, v));
        answers("it is as it was", 7, hall, h -> h.power(0, 7));
    }

    @Promise(value = 4, says = "mark: how many words, 0 to 40")
    private static void p04Mark() {
        range("mark", 0, 40, ARGUMENT, QuestionEdges::one, (h, v) -> h.power(0, v));
        answers("more than there are words", 0, withWords(1), h -> h.power(0, 40));
    }

    @Promise(value = 4, says = ORDER)
    private static void p04Order() {
        refuses("no question, no mark", INDEX, one(), h -> h.power(1, 41));
        refuses("no question, no mark, below", INDEX, one(), h -> h.power(-1, -1));
    }

    @Promise(value = 4, says = "Returns the mark before.")
    private static void p04Before() {
        TossupHall hall = some(2);
        answers("at first", 0, hall, h -> h.power(0, 40));
        answers("the greatest", 40, hall, h -> h.power(0, 0));
        answers("the least", 0, hall, h -> h.power(0, 1));
        answers("of another one", 0, hall, h -> h.power(1, 1));
    }

    @Promise(value = 4, says = "Sets the mark of power.")
    private static void p04Always() {
        answers("in a packet", 0, packed(40), h -> h.power(0, 40));
        TossupHall hall = Halls.begun(1);
        hall.read(1);
        answers("in a match", 2, hall, h -> h.power(0, 0));
    }

    @Promise(value = 4, says = "a buzz behind fewer words than it tells is in power; 0 at first.")
    private static void p04InPower() {
        int[][] marksAndScores = {{0, 10}, {1, 10}, {2, 10}, {3, 15}, {4, 15}, {40, 15}};
        for (int[] row : marksAndScores) {
            TossupHall hall = Halls.begun(1);
            hall.power(0, row[0]);
            Halls.play(hall, 2, 0, "yes");
            answers("behind 2 words, the mark is " + row[0], row[1], hall, h -> h.score(0, false));
        }
    }

    // ---- promise 5

    @Promise(value = 5, says = "Throws IndexOutOfBoundsException if there is no such question, for either")
    private static void p05Question() {
        range("question", 0, 2, INDEX, () -> some(3), (h, v) -> h.repeats(v, 1));
        range("other", 0, 2, INDEX, () -> some(3), (h, v) -> h.repeats(1, v));
        range("question", 0, 23, INDEX, () -> some(24), (h, v) -> h.repeats(v, 0));
        range("other", 0, 23, INDEX, () -> some(24), (h, v) -> h.repeats(0, v));
        beyond("both", 0, -1, INDEX, new TossupHall(), (h, v) -> h.repeats(v, v));
    }

    @Promise(value = 5, says = "Returns how many.")
    private static void p05None() {
        answers("without words", 0, some(2), h -> h.repeats(0, 1));
        answers("one word", 0, withWords(1), h -> h.repeats(0, 0));
        answers("two words", 0, withWords(2), h -> h.repeats(0, 0));
        answers("three words", 1, withWords(3), h -> h.repeats(0, 0));
        answers("40 words alike", 1, withWords(40), h -> h.repeats(0, 0));
    }

    @Promise(value = 5, says = "Returns by how many shingles two questions repeat each other.")
    private static void p05Most() {
        TossupHall hall = some(2);
        for (int i = 0; i < 40; i++) {
            hall.word(0, i);
            hall.word(1, i);
        }
        answers("40 unlike words", 38, hall, h -> h.repeats(0, 1));
        answers("the other way", 38, hall, h -> h.repeats(1, 0));
    }

    @Promise(value = 5, says = "other: another one, or the same")
    private static void p05TheSame() {
        TossupHall hall = one();
        Halls.words(hall, 0, 1, 2, 3, 4);
        answers("itself", 2, hall, h -> h.repeats(0, 0));
    }

    @Promise(value = 5, says = "The shingles of a question are all its rows of three words that follow each other; "
        + "two questions repeat each other by so many unlike shingles that both have.")
    private static void p05Terms() {
        TossupHall hall = some(5);
        Halls.words(hall, 0, 0, 0, 0, 0, 99, 99, 99);
        Halls.words(hall, 1, 99, 99, 99, 99, 0, 0, 0, 99);
        Halls.words(hall, 2, 0, 99, 0);
        Halls.words(hall, 3, 1, 2, 3);
        Halls.words(hall, 4, 12, 3, 12, 31, 2, 3, 1, 23);
        answers("the first's own", 4, hall, h -> h.repeats(0, 0));
        answers("the second's own", 5, hall, h -> h.repeats(1, 1));
        answers("000, 999 and 009, each once", 3, hall, h -> h.repeats(0, 1));
        answers("not those with a gap", 0, hall, h -> h.repeats(0, 2));
        answers("words, not digits", 0, hall, h -> h.repeats(3, 4));
    }

    @Promise(value = 5, says = "with at most 40 words, each a number from 0 to 99")
    private static void p05WordsAtTheEnds() {
        int[][] shingles = {{0, 0, 99}, {0, 1, 0}, {0, 99, 99}, {1, 0, 0}, {99, 99, 99}, {0, 0, 0}, {98, 99, 99}, {99, 0, 0}};
        TossupHall hall = some(shingles.length);
        for (int i = 0; i < shingles.length; i++) {
            Halls.words(hall, i, shingles[i]);
        }
        for (int i = 0; i < shingles.length; i++) {
            for (int j = 0; j < shingles.length; j++) {
                int one = i;
                int other = j;
                answers("shingles " + i + " and " + j, i == j ? 1 : 0, hall, h -> h.repeats(one, other));
            }
        }
    }

    // ---- promise 6

    @Promise(value = 6, says = "Throws IllegalArgumentException if there is no such letter")
    private static void p06NoLetter() {
        letters("letter", "abcdefghijklmnopqrstuvwxyz", ARGUMENT, TossupHall::new, (h, v) -> h.type((char) v));
    }

    @Promise(value = 6, says = "letter: the letter, a to z")
    private static void p06Letter() {
        answers("the least", 1, new TossupHall(), h -> h.type('a'));
        answers("the greatest", 1, new TossupHall(), h -> h.type('z'));
        refuses("one below", ARGUMENT, typed(5), h -> h.type('`'));
        refuses("one above", ARGUMENT, typed(5), h -> h.type('{'));
        refuses("a great one", ARGUMENT, typed(5), h -> h.type('A'));
    }

    @Promise(value = 6, says = "Throws IllegalStateException if it has 12")
    private static void p06Full() {
        answers("the 12th", 12, typed(11), h -> h.type('l'));
        refuses("the 13th", STATE, typed(12), h -> h.type('a'));
    }

    @Promise(value = 6, says = ORDER)
    private static void p06Order() {
        refuses("the 13th, no letter", ARGUMENT, typed(12), h -> h.type('{'));
    }

    @Promise(value = 6, says = "Returns how many letters the text has.")
    private static void p06HowMany() {
        TossupHall hall = new TossupHall();
        for (int i = 1; i <= 12; i++) {
            answers("letters", i, hall, h -> h.type('z'));
        }
    }

    @Promise(value = 6, says = "Types a letter.")
    private static void p06Types() {
        TossupHall hall = one();
        Halls.line(hall, 0, 'a', TEXT);
        Halls.type(hall, TEXT.substring(0, 9));
        refuses("no letter between", ARGUMENT, hall, h -> h.type('!'));
        Halls.type(hall, TEXT.substring(9));
        refuses("one too many", STATE, hall, h -> h.type('m'));
        answers("12 letters in their order", 'r', hall, h -> h.judge(0));
    }

    @Promise(value = 6, says = "Letters are typed into one text of at most 12, which is empty behind each use.")
    private static void p06EmptyBehindEachUse() {
        TossupHall wiped = typed(12);
        answers("wiped", 12, wiped, TossupHall::wipe);
        answers("behind wipe", 1, wiped, h -> h.type('a'));
        TossupHall lined = typed(12);
        answers("a line", 1, lined, h -> h.line(0, 'a'));
        answers("behind line", 1, lined, h -> h.type('a'));
        TossupHall judged = typed(12);
        answers("judged", 'w', judged, h -> h.judge(0));
        answers("behind judge", 1, judged, h -> h.type('a'));
        for (String text : new String[] {"yes", "no", "may"}) {
            TossupHall answered = Halls.begun(1);
            Halls.play(answered, 1, 0, text);
            answers("behind the answer " + text, 1, answered, h -> h.type('a'));
        }
    }

    // ---- promise 7

    @Promise(value = 7, says = "Returns how many letters it had.")
    private static void p07HowMany() {
        answers("none", 0, typed(0), TossupHall::wipe);
        answers("one", 1, typed(1), TossupHall::wipe);
        answers("12", 12, typed(12), TossupHall::wipe);
    }

    @Promise(value = 7, says = "Empties the text.")
    private static void p07Empties() {
        TossupHall hall = typed(12);
        hall.wipe();
        answers("again", 0, hall, TossupHall::wipe);
        refuses("no text is left", UNSUPPORTED, hall, h -> h.judge(0));
        answers("a new one", 1, hall, h -> h.type('z'));
    }

    // ---- promise 8

    @Promise(value = 8, says = "Throws IndexOutOfBoundsException if there is no such question")
    private static void p08Question() {
        Supplier<TossupHall> begin = () -> {
            TossupHall hall = some(3);
            Halls.type(hall, TEXT);
            return hall;
        };
        range("question", 0, 2, INDEX, begin, (h, v) -> h.line(v, 'a'));
        TossupHall full = some(24);
        Halls.type(full, "a");
        beyond("question", 0, 23, INDEX, full, (h, v) -> h.line(v, 'a'));
        answers("the last one", 1, full, h -> h.line(23, 'a'));
        beyond("question", 0, -1, INDEX, new TossupHall(), (h, v) -> h.line(v, 'a'));
    }

    @Promise(value = 8, says = "Throws IllegalArgumentException if there is no such kind")
    private static void p08NoKind() {
        letters("kind", "apn", ARGUMENT, () -> typed(3), (h, v) -> h.line(0, (char) v));
    }

    @Promise(value = 8, says = "kind: 'a', 'p' or 'n'")
    private static void p08Kind() {
        char[] kinds = {'a', 'p', 'n'};
        char[] verdicts = {'r', 'p', 'w'};
        for (int i = 0; i < 3; i++) {
            TossupHall hall = typed(4);
            hall.line(0, kinds[i]);
            Halls.type(hall, TEXT.substring(0, 4));
            answers("kind '" + kinds[i] + "'", verdicts[i], hall, h -> h.judge(0));
        }
        for (char kind : "`boqmAPNrw".toCharArray()) {
            refuses("kind '" + kind + "'", ARGUMENT, typed(4), h -> h.line(0, kind));
        }
    }

    @Promise(value = 8, says = "Throws UnsupportedOperationException if the text is empty")
    private static void p08NoText() {
        refuses("no text yet", UNSUPPORTED, one(), h -> h.line(0, 'a'));
        refuses("no text any more", UNSUPPORTED, withLines(1), h -> h.line(0, 'p'));
        answers("one letter", 1, typed(1), h -> h.line(0, 'n'));
    }

    @Promise(value = 8, says = "Throws IllegalStateException if there are 6 others")
    private static void p08Full() {
        TossupHall five = withLines(5);
        Halls.type(five, TEXT);
        answers("the 6th", 6, five, h -> h.line(0, 'a'));
        for (char kind : "apn".toCharArray()) {
            TossupHall six = withLines(6);
            Halls.type(six, "g");
            refuses("the 7th, '" + kind + "'", STATE, six, h -> h.line(0, kind));
        }
    }

    @Promise(value = 8, says = "Adds the text as a line to a question, in place of one with the same text.")
    private static void p08InPlace() {
        for (int i = 0; i < 6; i++) {
            TossupHall six = withLines(6);
            String text = TEXT.substring(i, i + 1);
            Halls.type(six, text);
            answers("one of 6 again", 6, six, h -> h.line(0, 'a'));
            Halls.type(six, text);
            answers("as it is now", 'r', six, h -> h.judge(0));
        }
        TossupHall two = withLines(1);
        Halls.type(two, "aa");
        answers("a longer text", 2, two, h -> h.line(0, 'p'));
        Halls.type(two, "a");
        answers("the shorter one is still there", 'w', two, h -> h.judge(0));
    }

    @Promise(value = 8, says = ORDER)
    private static void p08Order() {
        refuses("no question, no kind, no text", INDEX, one(), h -> h.line(1, 'x'));
        refuses("no kind, no text", ARGUMENT, one(), h -> h.line(0, 'x'));
        refuses("no kind, no text, 6 lines", ARGUMENT, withLines(6), h -> h.line(0, 'x'));
        TossupHall six = withLines(6);
        Halls.type(six, "g");
        refuses("no kind, 6 lines", ARGUMENT, six, h -> h.line(0, 'x'));
        refuses("no text, 6 lines", UNSUPPORTED, withLines(6), h -> h.line(0, 'a'));
    }

    @Promise(value = 8, says = "Returns how many lines it has.")
    private static void p08HowMany() {
        TossupHall hall = some(2);
        for (int i = 1; i <= 6; i++) {
            Halls.type(hall, TEXT.substring(0, i));
            answers("lines", i, hall, h -> h.line(0, 'a'));
        }
        Halls.type(hall, "a");
        answers("lines of another one", 1, hall, h -> h.line(1, 'a'));
    }

    @Promise(value = 8, says = "A question has at most 6 lines, each a text of 1 to 12 letters, 'a' accepted, 'p' prompted, or 'n' not accepted.")
    private static void p08Terms() {
        for (int letters = 1; letters <= 12; letters++) {
            TossupHall hall = typed(letters);
            answers("a line of " + letters, 1, hall, h -> h.line(0, 'p'));
            Halls.type(hall, TEXT.substring(0, letters));
            answers("it is that line", 'p', hall, h -> h.judge(0));
        }
        TossupHall packed = packed(1);
        Halls.type(packed, "a");
        answers("to a question in a packet", 1, packed, h -> h.line(0, 'a'));
    }

    // ---- promise 9

    @Promise(value = 9, says = "Throws IndexOutOfBoundsException if there is no such question")
    private static void p09Question() {
        Supplier<TossupHall> begin = () -> {
            TossupHall hall = some(24);
            Halls.type(hall, TEXT);
            return hall;
        };
        range("question", 0, 23, INDEX, begin, (h, v) -> h.judge(v));
        beyond("question", 0, 0, INDEX, typed(1), (h, v) -> h.judge(v));
        beyond("question", 0, -1, INDEX, new TossupHall(), (h, v) -> h.judge(v));
    }

    @Promise(value = 9, says = "Throws UnsupportedOperationException if the text is empty")
    private static void p09NoText() {
        refuses("no text", UNSUPPORTED, one(), h -> h.judge(0));
        TossupHall hall = typed(1);
        hall.judge(0);
        refuses("no text any more", UNSUPPORTED, hall, h -> h.judge(0));
    }

    @Promise(value = 9, says = ORDER)
    private static void p09Order() {
        refuses("no question, no text", INDEX, one(), h -> h.judge(1));
    }

    @Promise(value = 9, says = "Returns 'r', 'p' or 'w'.")
    private static void p09Verdicts() {
        TossupHall hall = one();
        Halls.line(hall, 0, 'a', "a");
        Halls.line(hall, 0, 'p', "b");
        Halls.line(hall, 0, 'n', "c");
        judged(hall, "a", 'r');
        judged(hall, "b", 'p');
        judged(hall, "c", 'w');
        judged(hall, "d", 'w');
    }

    private static void judged(TossupHall hall, String text, char due) {
        Halls.type(hall, text);
        answers("the text " + text, due, hall, h -> h.judge(0));
    }

    @Promise(value = 9, says = "Judges the text by a question, outside of a match.")
    private static void p09OutsideOfAMatch() {
        TossupHall hall = Halls.begun(1);
        hall.read(1);
        hall.buzz(0, 0);
        hall.lock();
        judged(hall, "may", 'p');
        judged(hall, "may", 'p');
        judged(hall, "yes", 'r');
        answers("it is no ruling", 0, hall, h -> h.rulings(0));
        answers("the player still answers", 'a', hall, TossupHall::phase);
    }

    @Promise(value = 9, says = "'n', wrong, if it is a line that is not accepted")
    private static void p09NotAcceptedFirst() {
        TossupHall hall = one();
        Halls.line(hall, 0, 'a', TEXT);
        Halls.line(hall, 0, 'n', "abcdefghijkm");
        judged(hall, "abcdefghijkm", 'w');
        judged(hall, "abcdefghijkn", 'r');
        Halls.line(hall, 0, 'n', "zzzzzz");
        judged(hall, "zzzzzy", 'w');
    }

    @Promise(value = 9, says = "or is it by at most so many changes of one letter, put in, left out or changed, "
        + "as a sixth of the letters of that line, cut")
    private static void p09Changes() {
        for (int letters = 1; letters <= 12; letters++) {
            for (int changes = 0; changes <= Math.min(3, letters); changes++) {
                TossupHall hall = one();
                String text = TEXT.substring(0, letters);
                Halls.line(hall, 0, 'a', text);
                char due = changes <= letters / 6 ? 'r' : 'w';
                judged(hall, "zzz".substring(0, changes) + text.substring(changes), due);
                if (changes < letters) {
                    judged(hall, text.substring(changes), due);
                    judged(hall, text.substring(0, letters - changes), due);
                }
                if (letters + changes <= 12) {
                    judged(hall, "zzz".substring(0, changes) + text, due);
                    judged(hall, text + "zzz".substring(0, changes), due);
                }
            }
        }
    }

    @Promise(value = 9, says = "as a sixth of the letters of that line, cut")
    private static void p09TheLinesLetters() {
        TossupHall five = one();
        Halls.line(five, 0, 'a', "abcde");
        judged(five, "abcdef", 'w');
        TossupHall six = one();
        Halls.line(six, 0, 'a', "abcdef");
        judged(six, "abcde", 'r');
        judged(six, "abdce", 'w');
        judged(six, "badcef", 'w');
        TossupHall eleven = one();
        Halls.line(eleven, 0, 'a', TEXT.substring(0, 11));
        judged(eleven, "abcdefghijkl", 'r');
        judged(eleven, "bbcdefghijkl", 'w');
    }

    @Promise(value = 9, says = "else 'p', prompted, if it is a prompted line; else wrong.")
    private static void p09Prompted() {
        TossupHall hall = one();
        Halls.line(hall, 0, 'p', TEXT);
        judged(hall, TEXT, 'p');
        judged(hall, "abcdefghijkm", 'w');
        Halls.line(hall, 0, 'a', "abcdefghijkm");
        judged(hall, TEXT, 'r');
        Halls.line(hall, 0, 'p', "z");
        judged(hall, "z", 'p');
    }
}
