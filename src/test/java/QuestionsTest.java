/** Promises 1 to 9: a new hall, questions, words, marks, shingles, texts and lines. */
public final class QuestionsTest {
    public static void main(String[] args) {
        newHall();
        newHallsAreApart();
        question();
        word();
        power();
        repeats();
        type();
        wipe();
        line();
        lineAtTheLimit();
        judgeExactLines();
        judgeSpelling();
        judgeWrongInputs();
        Checks.finish("QuestionsTest");
    }

    private static void newHall() {
        TossupHall hall = new TossupHall();
        Checks.letter("promise 1: phase", hall.phase(), '-');
        Checks.same("promise 1: wipe", hall.wipe(), 0);
        Checks.fails("promise 1: no question", Halls.INDEX, () -> hall.repeats(0, 0));
        Checks.fails("promise 1: no packet", Halls.INDEX, () -> hall.questions(0));
        Checks.fails("promise 1: no team", Halls.INDEX, () -> hall.poolOf(0));
        Checks.fails("promise 1: no player", Halls.INDEX, () -> hall.seen(0));
        Checks.fails("promise 1: no match", Halls.INDEX, () -> hall.rulings(0));
        Checks.fails("promise 1: quotas of 0", Halls.UNSUPPORTED, hall::packet);
        Checks.same("promise 1: quota", hall.quota(5, 0), 0);
    }

    private static void newHallsAreApart() {
        TossupHall one = new TossupHall();
        TossupHall other = new TossupHall();
        one.question(0, 0);
        one.type('a');
        one.team(1);
        Checks.same("promise 1: the other's text", other.wipe(), 0);
        Checks.same("promise 1: the other's question", other.question(1, 1), 0);
        Checks.same("promise 1: the other's team", other.team(1), 0);
    }

    private static void question() {
        TossupHall hall = new TossupHall();
        Checks.fails("promise 2: category -1", Halls.ARGUMENT, () -> hall.question(-1, 0));
        Checks.fails("promise 2: category 6", Halls.ARGUMENT, () -> hall.question(6, 0));
        Checks.fails("promise 2: theme -1", Halls.ARGUMENT, () -> hall.question(0, -1));
        Checks.fails("promise 2: theme 100", Halls.ARGUMENT, () -> hall.question(0, 100));
        Checks.fails("promise 2: greatest theme", Halls.ARGUMENT, () -> hall.question(0, Integer.MAX_VALUE));
        for (int i = 0; i < 24; i++) {
            Checks.same("promise 2: question", hall.question(i % 6, i == 0 ? 99 : i), i);
        }
        Checks.fails("promise 2: the 25th", Halls.STATE, () -> hall.question(5, 99));
        Checks.fails("promise 2: the 25th of no category", Halls.ARGUMENT, () -> hall.question(6, 99));
        Checks.fails("promise 2: the 25th of no theme", Halls.ARGUMENT, () -> hall.question(0, 100));
        Checks.fails("promise 2: it was not added", Halls.INDEX, () -> hall.power(24, 0));
        Checks.same("promise 2: no words", hall.word(23, 0), 1);
        Checks.same("promise 2: the mark at first", hall.power(23, 1), 0);
        hall.type('a');
        Checks.letter("promise 2: no lines", hall.judge(23), 'w');
    }

    private static void word() {
        TossupHall hall = new TossupHall();
        hall.question(0, 0);
        hall.question(1, 0);
        Checks.fails("promise 3: question -1", Halls.INDEX, () -> hall.word(-1, 100));
        Checks.fails("promise 3: question 2", Halls.INDEX, () -> hall.word(2, 0));
        Checks.fails("promise 3: word -1", Halls.ARGUMENT, () -> hall.word(0, -1));
        Checks.fails("promise 3: word 100", Halls.ARGUMENT, () -> hall.word(0, 100));
        for (int i = 1; i <= 40; i++) {
            Checks.same("promise 3: word", hall.word(0, i == 1 ? 99 : 0), i);
        }
        Checks.fails("promise 3: the 41st", Halls.STATE, () -> hall.word(0, 0));
        Checks.fails("promise 3: the 41st, no such word", Halls.ARGUMENT, () -> hall.word(0, 100));
        Checks.same("promise 3: another question", hall.word(1, 0), 1);
        hall.quota(0, 1);
        hall.packet();
        Checks.fails("promise 3: in a packet, 40 words", Halls.UNSUPPORTED, () -> hall.word(0, 0));
        Checks.fails("promise 3: in a packet, no such word", Halls.ARGUMENT, () -> hall.word(0, -1));
        Checks.same("promise 3: not in a packet", hall.word(1, 99), 2);
    }

    private static void power() {
        TossupHall hall = new TossupHall();
        hall.question(0, 0);
        hall.question(0, 1);
        Checks.fails("promise 4: question -1", Halls.INDEX, () -> hall.power(-1, 41));
        Checks.fails("promise 4: question 2", Halls.INDEX, () -> hall.power(2, 0));
        Checks.fails("promise 4: mark -1", Halls.ARGUMENT, () -> hall.power(0, -1));
        Checks.fails("promise 4: mark 41", Halls.ARGUMENT, () -> hall.power(0, 41));
        Checks.same("promise 4: at first", hall.power(0, 40), 0);
        Checks.fails("promise 4: mark 41 again", Halls.ARGUMENT, () -> hall.power(0, 41));
        Checks.same("promise 4: then", hall.power(0, 0), 40);
        Checks.same("promise 4: then 0", hall.power(0, 7), 0);
        Checks.same("promise 4: the other one", hall.power(1, 3), 0);
        hall.quota(0, 1);
        hall.packet();
        Checks.same("promise 4: in a packet", hall.power(0, 8), 7);
    }

    private static void repeats() {
        TossupHall hall = new TossupHall();
        for (int i = 0; i < 6; i++) {
            hall.question(0, i);
        }
        Halls.words(hall, 0, 1, 2, 3, 1, 2, 3, 4);
        Halls.words(hall, 1, 9, 1, 2, 3, 4, 1, 2, 3);
        Halls.words(hall, 2, 3, 2, 1);
        Halls.words(hall, 3, 1, 2);
        Halls.words(hall, 4, 5, 5, 5, 5, 5, 99, 0, 0, 99, 0, 0);
        Checks.fails("promise 5: question -1", Halls.INDEX, () -> hall.repeats(-1, 0));
        Checks.fails("promise 5: question 6", Halls.INDEX, () -> hall.repeats(6, 0));
        Checks.fails("promise 5: other -1", Halls.INDEX, () -> hall.repeats(0, -1));
        Checks.fails("promise 5: other 6", Halls.INDEX, () -> hall.repeats(0, 6));
        Checks.same("promise 5: unlike shingles of itself", hall.repeats(0, 0), 4);
        Checks.same("promise 5: 123 and 234", hall.repeats(0, 1), 2);
        Checks.same("promise 5: the other way", hall.repeats(1, 0), 2);
        Checks.same("promise 5: the order counts", hall.repeats(0, 2), 0);
        Checks.same("promise 5: two words have none", hall.repeats(3, 3), 0);
        Checks.same("promise 5: no words", hall.repeats(5, 0), 0);
        Checks.same("promise 5: 555 once", hall.repeats(4, 4), 6);
        hall.word(3, 3);
        Checks.same("promise 5: behind a word more", hall.repeats(3, 0), 1);
        hall.word(3, 4);
        Checks.same("promise 5: behind another", hall.repeats(3, 0), 2);
        fullQuestions();
    }

    private static void fullQuestions() {
        TossupHall hall = new TossupHall();
        hall.question(0, 0);
        hall.question(0, 1);
        for (int i = 0; i < 40; i++) {
            hall.word(0, 99 - i);
            hall.word(1, i < 20 ? 99 - i : 98 - i);
        }
        Checks.same("promise 5: 40 words", hall.repeats(0, 0), 38);
        Checks.same("promise 5: all but those over the gap", hall.repeats(0, 1), 35);
    }

    private static void type() {
        TossupHall hall = new TossupHall();
        Checks.fails("promise 6: '`'", Halls.ARGUMENT, () -> hall.type('`'));
        Checks.fails("promise 6: '{'", Halls.ARGUMENT, () -> hall.type('{'));
        Checks.fails("promise 6: 'A'", Halls.ARGUMENT, () -> hall.type('A'));
        Checks.fails("promise 6: the greatest", Halls.ARGUMENT, () -> hall.type((char) 65535));
        for (int i = 1; i <= 12; i++) {
            Checks.same("promise 6: letter", hall.type(i % 2 == 0 ? 'a' : 'z'), i);
        }
        Checks.fails("promise 6: the 13th", Halls.STATE, () -> hall.type('a'));
        Checks.fails("promise 6: the 13th, no letter", Halls.ARGUMENT, () -> hall.type('1'));
        Checks.same("promise 6: still 12", hall.wipe(), 12);
        Checks.same("promise 6: then", hall.type('q'), 1);
    }

    private static void wipe() {
        TossupHall hall = new TossupHall();
        Checks.same("promise 7: empty", hall.wipe(), 0);
        Halls.type(hall, "abc");
        Checks.same("promise 7: three", hall.wipe(), 3);
        Checks.same("promise 7: again", hall.wipe(), 0);
        hall.question(0, 0);
        Halls.type(hall, "d");
        hall.line(0, 'a');
        Checks.letter("promise 7: nothing of abc is left", Halls.judge(hall, 0, "d"), 'r');
        Checks.letter("promise 7: dbc is not the line", Halls.judge(hall, 0, "dbc"), 'w');
    }

    private static void line() {
        TossupHall hall = new TossupHall();
        hall.question(0, 0);
        hall.question(1, 0);
        Checks.fails("promise 8: question -1", Halls.INDEX, () -> hall.line(-1, 'z'));
        Checks.fails("promise 8: question 2", Halls.INDEX, () -> hall.line(2, 'a'));
        Checks.fails("promise 8: kind 'r', no text", Halls.ARGUMENT, () -> hall.line(0, 'r'));
        Checks.fails("promise 8: no text", Halls.UNSUPPORTED, () -> hall.line(0, 'a'));
        Halls.type(hall, "one");
        Checks.fails("promise 8: kind 'A'", Halls.ARGUMENT, () -> hall.line(0, 'A'));
        Checks.fails("promise 8: no question, with text", Halls.INDEX, () -> hall.line(2, 'a'));
        Checks.same("promise 8: the text is kept", hall.type('s'), 4);
        Checks.same("promise 8: first", hall.line(0, 'a'), 1);
        Checks.same("promise 8: the text is used", hall.wipe(), 0);
        Checks.letter("promise 8: accepted", Halls.judge(hall, 0, "ones"), 'r');
        Checks.same("promise 8: the same as prompted", Halls.line(hall, 0, 'p', "ones"), 1);
        Checks.letter("promise 8: prompted now", Halls.judge(hall, 0, "ones"), 'p');
        Checks.same("promise 8: the same as not accepted", Halls.line(hall, 0, 'n', "ones"), 1);
        Checks.letter("promise 8: wrong now", Halls.judge(hall, 0, "ones"), 'w');
        Checks.same("promise 8: the same as accepted", Halls.line(hall, 0, 'a', "ones"), 1);
        Checks.letter("promise 8: right again", Halls.judge(hall, 0, "ones"), 'r');
        Checks.same("promise 8: a beginning of it", Halls.line(hall, 0, 'p', "one"), 2);
        Checks.same("promise 8: the other question", Halls.line(hall, 1, 'n', "ones"), 1);
    }

    private static void lineAtTheLimit() {
        TossupHall hall = new TossupHall();
        hall.question(0, 0);
        String[] texts = {"a", "b", "c", "d", "e", "abcdefghijkl"};
        for (int i = 0; i < 6; i++) {
            Checks.same("promise 8: line", Halls.line(hall, 0, 'p', texts[i]), i + 1);
        }
        Halls.type(hall, "abcdefghijkm");
        Checks.fails("promise 8: the 7th", Halls.STATE, () -> hall.line(0, 'a'));
        Checks.fails("promise 8: the 7th, no kind", Halls.ARGUMENT, () -> hall.line(0, ' '));
        Checks.same("promise 8: its text is kept", hall.wipe(), 12);
        Checks.fails("promise 8: 6 lines and no text", Halls.UNSUPPORTED, () -> hall.line(0, 'a'));
        for (int i = 0; i < 6; i++) {
            Checks.same("promise 8: in place of one", Halls.line(hall, 0, 'a', texts[i]), 6);
        }
        for (int i = 0; i < 6; i++) {
            Checks.letter("promise 8: as it is now", Halls.judge(hall, 0, texts[i]), 'r');
        }
    }

    private static void judgeExactLines() {
        TossupHall hall = new TossupHall();
        hall.question(0, 0);
        Halls.line(hall, 0, 'a', "paris");
        Halls.line(hall, 0, 'p', "city");
        Halls.line(hall, 0, 'n', "lyon");
        Checks.letter("promise 9: accepted", Halls.judge(hall, 0, "paris"), 'r');
        Checks.same("promise 9: the text is used", hall.wipe(), 0);
        Checks.letter("promise 9: prompted", Halls.judge(hall, 0, "city"), 'p');
        Checks.letter("promise 9: prompted again, outside of a match", Halls.judge(hall, 0, "city"), 'p');
        Checks.letter("promise 9: not accepted", Halls.judge(hall, 0, "lyon"), 'w');
        Checks.letter("promise 9: anything else", Halls.judge(hall, 0, "z"), 'w');
        Checks.letter("promise 9: 5 letters allow no change", Halls.judge(hall, 0, "pariz"), 'w');
    }

    private static void judgeSpelling() {
        TossupHall hall = new TossupHall();
        hall.question(0, 0);
        Halls.line(hall, 0, 'a', "london");
        Halls.line(hall, 0, 'a', "abcdefghijkl");
        Halls.line(hall, 0, 'a', "mnopqrstuvw");
        Halls.line(hall, 0, 'p', "lindon");
        Halls.line(hall, 0, 'p', "lxxdon");
        Halls.line(hall, 0, 'n', "londom");
        String[] right = {"london", "ondon", "lonon", "londo", "xlondon", "lonxdon", "londonx", "xondon", "lonxon",
            "lindon", "abcdefghijkx", "xbcdefghijkx", "cdefghijkl", "abcdefghij", "abdefghijklx", "bcdefghijklx",
            "axbcdefghijk", "mnopqrstuv", "mnopqrstuvwx", "xmnopqrstuvw"};
        for (String text : right) {
            Checks.letter("promise 9: " + text, Halls.judge(hall, 0, text), 'r');
        }
        String[] wrong = {"londom", "lodnon", "lndo", "xxndon", "londonxx", "abcdefghixxx", "cdefghijkx", "abcdefghi",
            "bacdefghikjl", "mnopqrstu", "xnopqrstuvx", "nopqrstuvwxy"};
        for (String text : wrong) {
            Checks.letter("promise 9: " + text, Halls.judge(hall, 0, text), 'w');
        }
        Checks.letter("promise 9: prompted, too far from london", Halls.judge(hall, 0, "lxxdon"), 'p');
    }

    private static void judgeWrongInputs() {
        TossupHall hall = new TossupHall();
        hall.question(0, 0);
        Checks.fails("promise 9: question 1, no text", Halls.INDEX, () -> hall.judge(1));
        Checks.fails("promise 9: question -1", Halls.INDEX, () -> hall.judge(-1));
        Checks.fails("promise 9: no text", Halls.UNSUPPORTED, () -> hall.judge(0));
        Halls.type(hall, "abc");
        Checks.fails("promise 9: question 1", Halls.INDEX, () -> hall.judge(1));
        Checks.same("promise 9: the text is kept", hall.wipe(), 3);
    }
}
