/** Promises 20 to 31: matches, from the first word to the log. */
public final class MatchesTest {
    public static void main(String[] args) {
        matchWrongInputs();
        matchLimit();
        read();
        readWithoutWords();
        buzz();
        buzzWrongInputs();
        lock();
        lockForgets();
        answerRight();
        answerWrong();
        answerPrompted();
        answerWrongInputs();
        markAsItIsThen();
        deadTossup();
        deadWrongInputs();
        part();
        partBounces();
        end();
        endsBehindTheLast();
        phase();
        score();
        rulings();
        mostRulings();
        Checks.finish("MatchesTest");
    }

    private static void matchWrongInputs() {
        TossupHall hall = Halls.ready(2);
        hall.team(5);
        Checks.fails("promise 20: team -1", Halls.INDEX, () -> hall.match(-1, -1, 0));
        Checks.fails("promise 20: team 3", Halls.INDEX, () -> hall.match(3, 0, 0));
        Checks.fails("promise 20: other 3", Halls.INDEX, () -> hall.match(0, 3, 0));
        Checks.fails("promise 20: packet 1", Halls.INDEX, () -> hall.match(0, 0, 1));
        Checks.fails("promise 20: packet -1", Halls.INDEX, () -> hall.match(0, 1, -1));
        Checks.fails("promise 20: itself, which cannot", Halls.ARGUMENT, () -> hall.match(2, 2, 0));
        Checks.fails("promise 20: the other without players", Halls.UNSUPPORTED, () -> hall.match(0, 2, 0));
        Checks.fails("promise 20: the first without players", Halls.UNSUPPORTED, () -> hall.match(2, 0, 0));
        Checks.letter("promise 20: none began", hall.phase(), '-');
        Checks.same("promise 20: number", hall.match(1, 0, 0), 0);
        Checks.fails("promise 20: one goes on", Halls.STATE, () -> hall.match(0, 1, 0));
        Checks.fails("promise 20: one goes on, cannot", Halls.UNSUPPORTED, () -> hall.match(0, 2, 0));
        Checks.fails("promise 20: one goes on, itself", Halls.ARGUMENT, () -> hall.match(0, 0, 0));
        hall.see(0, 1);
        hall.end();
        Checks.fails("promise 20: one has seen", Halls.UNSUPPORTED, () -> hall.match(0, 1, 0));
        Checks.fails("promise 20: the other has seen", Halls.UNSUPPORTED, () -> hall.match(1, 0, 0));
    }

    private static void matchLimit() {
        TossupHall hall = Halls.ready(2);
        for (int i = 0; i < 40; i++) {
            Checks.same("promise 20: number", hall.match(i % 2, 1 - i % 2, 0), i);
            Checks.same("promise 27: nothing heard", hall.end(), 0);
        }
        Checks.fails("promise 20: the 41st", Halls.STATE, () -> hall.match(0, 1, 0));
        Checks.fails("promise 20: the 41st, itself", Halls.ARGUMENT, () -> hall.match(1, 1, 0));
        Checks.letter("promise 20: it did not begin", hall.phase(), '-');
        hall.see(0, 0);
        Checks.fails("promise 20: the 41st, seen", Halls.UNSUPPORTED, () -> hall.match(0, 1, 0));
    }

    private static void read() {
        TossupHall hall = Halls.ready(2);
        Checks.fails("promise 21: no match", Halls.STATE, () -> hall.read(0));
        hall.match(0, 1, 0);
        Checks.fails("promise 21: 0", Halls.ARGUMENT, () -> hall.read(0));
        Checks.fails("promise 21: 41", Halls.ARGUMENT, () -> hall.read(41));
        Checks.fails("promise 21: -1", Halls.ARGUMENT, () -> hall.read(-1));
        Checks.same("promise 21: 1", hall.read(1), 1);
        Checks.same("promise 21: 2 more", hall.read(2), 3);
        Checks.same("promise 21: at most all", hall.read(40), 4);
        Checks.same("promise 21: all were read", hall.read(1), 4);
        hall.buzz(0, 0);
        Checks.fails("promise 21: a buzz is told", Halls.STATE, () -> hall.read(1));
        hall.lock();
        Checks.fails("promise 21: somebody answers", Halls.STATE, () -> hall.read(0));
        Halls.answer(hall, "yes");
        Checks.fails("promise 21: a bonus is on", Halls.STATE, () -> hall.read(41));
        Halls.parts(hall, "111");
        Checks.same("promise 21: the next one", hall.read(2), 2);
    }

    private static void readWithoutWords() {
        TossupHall hall = new TossupHall();
        hall.question(0, 0);
        hall.question(1, 1);
        hall.quota(0, 1);
        hall.quota(1, 1);
        hall.packet();
        Halls.team(hall, 0);
        Halls.team(hall, 0);
        hall.match(0, 1, 0);
        Checks.same("promise 21: there are no words", hall.read(40), 0);
        Checks.fails("promise 22: no word was read", Halls.STATE, () -> hall.buzz(0, 0));
        Checks.same("promise 25: all of none were read", hall.dead(), 1);
        Checks.same("promise 27: none was heard", hall.end(), 0);
        Checks.same("promise 18: none was seen", hall.seen(0), 0);
    }

    private static void buzz() {
        TossupHall hall = Halls.begun(2);
        Checks.fails("promise 22: no word was read", Halls.STATE, () -> hall.buzz(0, 0));
        hall.read(1);
        Checks.same("promise 22: 1", hall.buzz(3, 9999999), 1);
        Checks.same("promise 22: 2", hall.buzz(0, 0), 2);
        Checks.fails("promise 22: again", Halls.UNSUPPORTED, () -> hall.buzz(3, 0));
        Checks.same("promise 22: 3", hall.buzz(2, 5), 3);
        Checks.same("promise 22: 4", hall.buzz(1, 5), 4);
        Checks.same("promise 23: the least of all", hall.lock(), 1);
    }

    private static void buzzWrongInputs() {
        TossupHall hall = Halls.ready(2);
        Halls.team(hall, 0);
        Checks.fails("promise 22: no match", Halls.STATE, () -> hall.buzz(9, -1));
        hall.match(0, 1, 0);
        Checks.fails("promise 22: no word was read, no player", Halls.STATE, () -> hall.buzz(9, -1));
        hall.read(1);
        Checks.fails("promise 22: player -1", Halls.INDEX, () -> hall.buzz(-1, -1));
        Checks.fails("promise 22: player 5", Halls.INDEX, () -> hall.buzz(5, 0));
        Checks.fails("promise 22: time -1 of another team", Halls.ARGUMENT, () -> hall.buzz(4, -1));
        Checks.fails("promise 22: time 10000000", Halls.ARGUMENT, () -> hall.buzz(0, 10000000));
        Checks.fails("promise 22: of another team", Halls.UNSUPPORTED, () -> hall.buzz(4, 0));
        Checks.letter("promise 22: none was told", hall.phase(), 't');
        Halls.play(hall, 0, 0, "no");
        Checks.fails("promise 22: the team is blocked", Halls.UNSUPPORTED, () -> hall.buzz(0, 0));
        Checks.fails("promise 22: also for the other player", Halls.UNSUPPORTED, () -> hall.buzz(1, 0));
        Checks.same("promise 22: the other team is not", hall.buzz(2, 0), 1);
        hall.lock();
        Checks.fails("promise 22: somebody answers", Halls.STATE, () -> hall.buzz(3, 0));
        Halls.answer(hall, "yes");
        Checks.fails("promise 22: a bonus is on", Halls.STATE, () -> hall.buzz(0, 0));
        Halls.parts(hall, "111");
        hall.read(1);
        Checks.same("promise 22: blocked for one tossup alone", hall.buzz(0, 0), 1);
    }

    private static void lock() {
        TossupHall hall = Halls.ready(1);
        Checks.fails("promise 23: no match", Halls.STATE, hall::lock);
        hall.match(0, 1, 0);
        Checks.fails("promise 23: no buzz, no word", Halls.NO_ELEMENT, hall::lock);
        hall.read(1);
        Checks.fails("promise 23: no buzz", Halls.NO_ELEMENT, hall::lock);
        // Reactions are 50, 10, 40 and 20.
        hall.buzz(3, 130);
        hall.buzz(2, 109);
        hall.buzz(0, 100);
        hall.buzz(1, 140);
        Checks.same("promise 23: time and reaction", hall.lock(), 2);
        Checks.fails("promise 23: somebody answers", Halls.STATE, hall::lock);
        Halls.answer(hall, "no");
        hall.buzz(1, 40);
        hall.buzz(0, 0);
        Checks.same("promise 23: alike, the lowest", hall.lock(), 0);
        Halls.answer(hall, "yes");
        Checks.fails("promise 23: a bonus is on", Halls.STATE, hall::lock);
    }

    private static void lockForgets() {
        TossupHall hall = Halls.begun(2);
        hall.read(1);
        hall.buzz(0, 500);
        hall.buzz(2, 0);
        hall.buzz(1, 600);
        Checks.same("promise 23: of the other team", hall.lock(), 2);
        Halls.answer(hall, "no");
        Checks.fails("promise 23: all others are forgotten", Halls.NO_ELEMENT, hall::lock);
        Checks.same("promise 23: reading goes on", hall.read(1), 2);
        Checks.same("promise 23: and can buzz again", hall.buzz(0, 700), 1);
        Checks.same("promise 23: the other one too", hall.buzz(1, 701), 2);
        Checks.same("promise 23: by the new times", hall.lock(), 1);
    }

    private static void answerRight() {
        TossupHall hall = Halls.begun(4);
        Checks.letter("promise 24: right", Halls.play(hall, 1, 0, "yes"), 'r');
        Checks.same("promise 24: the text is used", hall.wipe(), 0);
        Checks.same("promise 24: 15 in power", hall.score(0, false), 15);
        Checks.letter("promise 24: a bonus", hall.phase(), 'o');
        Halls.parts(hall, "000000");
        Halls.play(hall, 2, 2, "yes");
        Checks.same("promise 24: 10 at the mark", hall.score(0, true), 10);
        Halls.parts(hall, "000000");
        Halls.play(hall, 4, 3, "yes");
        Checks.same("promise 24: 10 behind all words", hall.score(0, true), 20);
        Checks.same("promise 24: nothing for the first", hall.score(0, false), 15);
    }

    private static void answerWrong() {
        TossupHall hall = Halls.begun(3);
        Checks.letter("promise 24: wrong", Halls.play(hall, 3, 0, "no"), 'w');
        Checks.same("promise 24: -5 before all words", hall.score(0, false), -5);
        Checks.letter("promise 24: the tossup goes on", hall.phase(), 't');
        Checks.letter("promise 24: wrong, the other is blocked", Halls.play(hall, 0, 2, "no"), 'w');
        Checks.same("promise 24: that is free", hall.score(0, true), 0);
        Checks.same("promise 24: the next tossup", hall.read(1), 1);
        Checks.letter("promise 24: the next may answer", Halls.play(hall, 3, 2, "no"), 'w');
        Checks.same("promise 24: behind all words it is free", hall.score(0, true), 0);
        Checks.fails("promise 24: but blocks", Halls.UNSUPPORTED, () -> hall.buzz(3, 0));
        Checks.letter("promise 24: the other may", Halls.play(hall, 0, 1, "yes"), 'r');
        Checks.same("promise 24: 10 and -5", hall.score(0, false), 5);
    }

    private static void answerPrompted() {
        TossupHall hall = Halls.begun(4);
        Checks.letter("promise 24: prompted", Halls.play(hall, 1, 0, "may"), 'p');
        Checks.letter("promise 24: the same answers", hall.phase(), 'a');
        Checks.same("promise 24: a prompt is no ruling", hall.rulings(0), 0);
        Checks.letter("promise 24: right then", Halls.answer(hall, "yes"), 'r');
        Checks.same("promise 24: in power", hall.score(0, false), 15);
        Checks.same("promise 24: by the same player", hall.ruling(0, 0, 'p'), 0);
        Halls.parts(hall, "111");
        Halls.play(hall, 1, 2, "may");
        Checks.letter("promise 24: prompted twice is wrong", Halls.answer(hall, "may"), 'w');
        Checks.same("promise 24: it costs", hall.score(0, true), -5);
        Checks.letter("promise 24: the other team is prompted anew", Halls.play(hall, 0, 1, "may"), 'p');
        Checks.letter("promise 24: wrong behind it", Halls.answer(hall, "no"), 'w');
        Checks.same("promise 24: two wrong ones", hall.rulings(0), 3);
        Checks.letter("promise 24: prompted in the next", Halls.play(hall, 1, 1, "may"), 'p');
    }

    private static void answerWrongInputs() {
        TossupHall hall = Halls.ready(2);
        Checks.fails("promise 24: no match, no text", Halls.STATE, hall::answer);
        hall.match(0, 1, 0);
        Halls.type(hall, "yes");
        Checks.fails("promise 24: nobody answers", Halls.STATE, hall::answer);
        hall.read(1);
        hall.buzz(0, 0);
        Checks.fails("promise 24: not locked", Halls.STATE, hall::answer);
        hall.lock();
        hall.wipe();
        Checks.fails("promise 24: no text", Halls.UNSUPPORTED, hall::answer);
        Checks.letter("promise 24: still answering", hall.phase(), 'a');
        Checks.letter("promise 9: judging does not answer", Halls.judge(hall, 0, "yes"), 'r');
        Checks.fails("promise 24: judging used the text", Halls.UNSUPPORTED, hall::answer);
        Checks.letter("promise 24: then", Halls.answer(hall, "yes"), 'r');
        Halls.type(hall, "yes");
        Checks.fails("promise 24: a bonus is on", Halls.STATE, hall::answer);
        Checks.same("promise 24: the text is kept", hall.wipe(), 3);
    }

    private static void markAsItIsThen() {
        TossupHall hall = Halls.begun(2);
        hall.read(3);
        hall.buzz(0, 0);
        hall.lock();
        hall.power(0, 4);
        Halls.answer(hall, "yes");
        hall.power(0, 0);
        Checks.same("promise 24: by the mark as it is then", hall.score(0, false), 15);
        Checks.same("promise 40: in power", hall.count(0, 'p'), 1);
        Halls.parts(hall, "000000");
        Halls.play(hall, 1, 0, "no");
        hall.power(1, 0);
        hall.protest(1);
        Checks.same("promise 35: by the mark as it was then", hall.scoreIf(0, 1, false), 30);
        Checks.holds("promise 45: sound", hall.isSound());
    }

    private static void deadTossup() {
        TossupHall hall = Halls.begun(3);
        hall.read(4);
        Checks.same("promise 25: the next", hall.dead(), 1);
        hall.read(4);
        hall.buzz(0, 0);
        Checks.same("promise 25: buzzes that were told", hall.dead(), 2);
        Checks.letter("promise 25: they are forgotten", hall.phase(), 't');
        hall.read(4);
        Checks.fails("promise 25: also for the lock", Halls.NO_ELEMENT, hall::lock);
        Checks.same("promise 25: and can be told", hall.buzz(0, 0), 1);
        Checks.same("promise 25: the match is over", hall.dead(), -1);
        Checks.letter("promise 25: it is", hall.phase(), '-');
        Checks.same("promise 25: no points", hall.score(0, false), 0);
        Checks.same("promise 25: heard", hall.count(0, 'h'), 3);
    }

    private static void deadWrongInputs() {
        TossupHall hall = Halls.ready(2);
        Checks.fails("promise 25: no match", Halls.STATE, hall::dead);
        hall.match(0, 1, 0);
        Checks.fails("promise 25: no word was read", Halls.STATE, hall::dead);
        hall.read(3);
        Checks.fails("promise 25: a word is left", Halls.STATE, hall::dead);
        hall.read(1);
        hall.buzz(0, 0);
        hall.lock();
        Checks.fails("promise 25: somebody answers", Halls.STATE, hall::dead);
        Halls.answer(hall, "yes");
        Checks.fails("promise 25: a bonus is on", Halls.STATE, hall::dead);
        Checks.letter("promise 25: it goes on", hall.phase(), 'o');
    }

    private static void part() {
        TossupHall hall = Halls.ready(2);
        Checks.fails("promise 26: no match", Halls.STATE, () -> hall.part(true));
        hall.match(0, 1, 0);
        Checks.fails("promise 26: a tossup", Halls.STATE, () -> hall.part(true));
        Halls.play(hall, 2, 0, "yes");
        Checks.same("promise 26: first", hall.part(true), 1);
        Checks.same("promise 26: 10 for a part", hall.score(0, false), 20);
        Checks.same("promise 26: second", hall.part(true), 2);
        Checks.same("promise 26: third", hall.part(true), 3);
        Checks.same("promise 26: 30 for three", hall.score(0, false), 40);
        Checks.letter("promise 26: the next tossup", hall.phase(), 't');
        Checks.fails("promise 26: no fourth", Halls.STATE, () -> hall.part(true));
        Checks.same("promise 26: from its first word", hall.read(1), 1);
    }

    private static void partBounces() {
        TossupHall hall = Halls.begun(2);
        Halls.play(hall, 2, 2, "yes");
        Checks.same("promise 26: wrong", hall.part(false), 0);
        Checks.same("promise 26: it bounces", hall.part(true), 1);
        Checks.same("promise 26: 10 for the other team", hall.score(0, false), 10);
        Checks.same("promise 26: the team that controls it answers first again", hall.part(true), 2);
        Checks.same("promise 26: 10 for it", hall.score(0, true), 20);
        Checks.same("promise 26: wrong again", hall.part(false), 2);
        Checks.same("promise 26: by both", hall.part(false), 3);
        Checks.same("promise 26: nothing for that", hall.score(0, false), 10);
        Halls.play(hall, 2, 0, "yes");
        Checks.same("promise 26: the next bonus begins anew", hall.part(true), 1);
        Checks.same("promise 26: for the one who won it", hall.score(0, false), 30);
    }

    private static void end() {
        TossupHall hall = Halls.ready(3);
        Checks.fails("promise 27: no match", Halls.STATE, hall::end);
        hall.match(0, 1, 0);
        hall.read(1);
        Checks.fails("promise 27: a word was read", Halls.STATE, hall::end);
        hall.buzz(0, 0);
        Checks.fails("promise 27: a buzz is told", Halls.STATE, hall::end);
        hall.lock();
        Checks.fails("promise 27: somebody answers", Halls.STATE, hall::end);
        Halls.answer(hall, "yes");
        Checks.fails("promise 27: a bonus is on", Halls.STATE, hall::end);
        Halls.parts(hall, "111");
        Halls.die(hall);
        Checks.same("promise 27: two were heard", hall.end(), 2);
        Checks.fails("promise 27: it is over", Halls.STATE, hall::end);
        Checks.letter("promise 27: it is", hall.phase(), '-');
        Checks.same("promise 27: the score stays", hall.score(0, false), 45);
    }

    private static void endsBehindTheLast() {
        TossupHall hall = Halls.begun(1);
        Halls.play(hall, 4, 0, "yes");
        Halls.parts(hall, "11");
        Checks.letter("promise 28: the bonus of the last tossup", hall.phase(), 'o');
        hall.part(true);
        Checks.letter("promise 28: the match ends behind it", hall.phase(), '-');
        Checks.same("promise 18: who played has seen", hall.seen(2), 1);
        TossupHall other = Halls.begun(1);
        Halls.play(other, 1, 0, "no");
        Halls.play(other, 0, 2, "no");
        Checks.letter("promise 28: both are blocked", other.phase(), '-');
        Checks.same("promise 18: who played has seen it", other.seen(1), 1);
    }

    private static void phase() {
        TossupHall hall = Halls.ready(2);
        Checks.letter("promise 28: no match", hall.phase(), '-');
        hall.match(0, 1, 0);
        Checks.letter("promise 28: no word yet", hall.phase(), 't');
        hall.read(1);
        Checks.letter("promise 28: a word", hall.phase(), 't');
        hall.buzz(0, 0);
        Checks.letter("promise 28: a buzz", hall.phase(), 'b');
        hall.lock();
        Checks.letter("promise 28: locked", hall.phase(), 'a');
        Halls.answer(hall, "yes");
        Checks.letter("promise 28: right", hall.phase(), 'o');
        hall.part(false);
        Checks.letter("promise 28: the other answers", hall.phase(), 'o');
    }

    private static void score() {
        TossupHall hall = Halls.begun(3);
        Checks.fails("promise 29: match -1", Halls.INDEX, () -> hall.score(-1, false));
        Checks.fails("promise 29: match 1", Halls.INDEX, () -> hall.score(1, true));
        Checks.same("promise 29: at first", hall.score(0, true), 0);
        Halls.play(hall, 1, 0, "no");
        Checks.same("promise 29: below 0", hall.score(0, false), -5);
        Halls.play(hall, 0, 2, "yes");
        Halls.parts(hall, "01100");
        Checks.same("promise 29: first", hall.score(0, false), 5);
        Checks.same("promise 29: other", hall.score(0, true), 25);
        hall.end();
        Halls.team(hall, 0);
        Halls.team(hall, 0);
        hall.match(2, 3, 0);
        Checks.same("promise 29: another match", hall.score(1, true), 0);
        Checks.same("promise 29: the one before", hall.score(0, true), 25);
    }

    private static void rulings() {
        TossupHall hall = Halls.begun(3);
        Checks.fails("promise 30: match -1", Halls.INDEX, () -> hall.rulings(-1));
        Checks.fails("promise 30: match 1", Halls.INDEX, () -> hall.rulings(1));
        Checks.same("promise 30: none", hall.rulings(0), 0);
        Halls.die(hall);
        Halls.play(hall, 2, 3, "no");
        Halls.play(hall, 1, 1, "yes");
        Checks.same("promise 30: two", hall.rulings(0), 2);
        Checks.same("promise 31: player 0", hall.ruling(0, 0, 'p'), 3);
        Checks.same("promise 31: words 0", hall.ruling(0, 0, 'w'), 2);
        Checks.same("promise 31: right 0", hall.ruling(0, 0, 'r'), 0);
        Checks.same("promise 31: question 0", hall.ruling(0, 0, 'q'), 1);
        Checks.same("promise 31: player 1", hall.ruling(0, 1, 'p'), 1);
        Checks.same("promise 31: words 1", hall.ruling(0, 1, 'w'), 3);
        Checks.same("promise 31: right 1", hall.ruling(0, 1, 'r'), 1);
        Checks.fails("promise 31: match 1", Halls.INDEX, () -> hall.ruling(1, 0, 'x'));
        Checks.fails("promise 31: match -1", Halls.INDEX, () -> hall.ruling(-1, 0, 'p'));
        Checks.fails("promise 31: ruling -1", Halls.INDEX, () -> hall.ruling(0, -1, 'x'));
        Checks.fails("promise 31: ruling 2", Halls.INDEX, () -> hall.ruling(0, 2, 'p'));
        Checks.fails("promise 31: letter 'P'", Halls.ARGUMENT, () -> hall.ruling(0, 0, 'P'));
        hall.protest(1);
        Halls.parts(hall, "111");
        hall.end();
        hall.resolve(0, 1, true);
        Checks.same("promise 31: as it was given", hall.ruling(0, 1, 'r'), 1);
    }

    /** Ten tossups with two wrong answers each. */
    private static void mostRulings() {
        TossupHall hall = Halls.begun(10);
        for (int i = 0; i < 10; i++) {
            Halls.play(hall, 1, i % 4, "no");
            Halls.play(hall, 1, (i + 2) % 4, "no");
        }
        Checks.letter("promise 28: the last one is dead", hall.phase(), '-');
        Checks.same("promise 30: two for each tossup", hall.rulings(0), 20);
        Checks.same("promise 31: the last player", hall.ruling(0, 19, 'p'), 3);
        Checks.same("promise 31: the last question", hall.ruling(0, 19, 'q'), 9);
        Checks.same("promise 29: the first answers cost", hall.score(0, false), -30);
        Checks.same("promise 29: the other team's", hall.score(0, true), -20);
        Checks.same("promise 32: of the last", hall.protest(19), 1);
        Checks.same("promise 33: 10 behind the mark", hall.resolve(0, 19, true), -30);
        Checks.same("promise 29: upheld", hall.score(0, true), -10);
        Checks.holds("promise 45: sound", hall.isSound());
    }
}
