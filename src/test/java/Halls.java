/** Short ways to bring a hall where a test begins. */
final class Halls {
    static final Class<IndexOutOfBoundsException> INDEX = IndexOutOfBoundsException.class;
    static final Class<IllegalArgumentException> ARGUMENT = IllegalArgumentException.class;
    static final Class<IllegalStateException> STATE = IllegalStateException.class;
    static final Class<UnsupportedOperationException> UNSUPPORTED = UnsupportedOperationException.class;
    static final Class<java.util.NoSuchElementException> NO_ELEMENT = java.util.NoSuchElementException.class;
    static final Class<ArithmeticException> ARITHMETIC = ArithmeticException.class;

    private Halls() {
    }

    /** A question with so many words, all of them its own number. */
    static int question(TossupHall hall, int category, int theme, int words) {
        int number = hall.question(category, theme);
        for (int i = 0; i < words; i++) {
            hall.word(number, number);
        }
        return number;
    }

    static void words(TossupHall hall, int question, int... words) {
        for (int word : words) {
            hall.word(question, word);
        }
    }

    static void type(TossupHall hall, String text) {
        for (char letter : text.toCharArray()) {
            hall.type(letter);
        }
    }

    static int line(TossupHall hall, int question, char kind, String text) {
        type(hall, text);
        return hall.line(question, kind);
    }

    static char judge(TossupHall hall, int question, String text) {
        type(hall, text);
        return hall.judge(question);
    }

    static char answer(TossupHall hall, String text) {
        type(hall, text);
        return hall.answer();
    }

    /** A team with players of these reactions, whose numbers follow those that are there. */
    static int team(TossupHall hall, int... reactions) {
        int team = hall.team(0);
        for (int reaction : reactions) {
            hall.player(team, reaction);
        }
        return team;
    }

    /**
     * Questions 0, 1, .. of 4 words with the mark 2, whose right answer is "yes" and whose prompted one is "may",
     * in one packet in this order; teams 0 with players 0 and 1, and 1 with players 2 and 3.
     */
    static TossupHall ready(int questions) {
        TossupHall hall = new TossupHall();
        for (int i = 0; i < questions; i++) {
            question(hall, i % 2, i, 4);
            hall.power(i, 2);
            line(hall, i, 'a', "yes");
            line(hall, i, 'p', "may");
        }
        hall.quota(0, (questions + 1) / 2);
        hall.quota(1, questions / 2);
        hall.packet();
        team(hall, 50, 10);
        team(hall, 40, 20);
        return hall;
    }

    /** A match of teams 0 and 1 on what ready made. */
    static TossupHall begun(int questions) {
        TossupHall hall = ready(questions);
        hall.match(0, 1, 0);
        return hall;
    }

    /** What ready made behind so many matches that ended ahead of the first word. */
    static TossupHall emptyMatches(int matches) {
        TossupHall hall = ready(1);
        for (int i = 0; i < matches; i++) {
            hall.match(0, 1, 0);
            hall.end();
        }
        return hall;
    }

    /** Lets a player answer the tossup, of which so many words more are read before. */
    static char play(TossupHall hall, int words, int player, String text) {
        if (words > 0) {
            hall.read(words);
        }
        hall.buzz(player, 0);
        hall.lock();
        return answer(hall, text);
    }

    /** The answers of a bonus, as far as they are told: '1' is right. */
    static void parts(TossupHall hall, String answers) {
        for (char answer : answers.toCharArray()) {
            hall.part(answer == '1');
        }
    }

    /** Reads what is left of the tossup and tells that it is dead. */
    static int die(TossupHall hall) {
        hall.read(40);
        return hall.dead();
    }

    /** Plays a match of one tossup, in which a player answers behind so many words; the bonus is not got. */
    static int shortMatch(TossupHall hall, int team, int other, int packet, int words, int player, String text) {
        int match = hall.match(team, other, packet);
        play(hall, words, player, text);
        if (hall.phase() == 'o') {
            parts(hall, "000000");
        } else {
            die(hall);
        }
        if (hall.phase() == 't') {
            hall.end();
        }
        return match;
    }
}
