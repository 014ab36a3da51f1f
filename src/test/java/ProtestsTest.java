/** Promises 32 to 35: protests, and what the log tells under their outcomes. */
public final class ProtestsTest {
    public static void main(String[] args) {
        protest();
        protestLimit();
        protestOfTheLastMatch();
        resolve();
        resolveWrongInputs();
        wrongBecomesRight();
        rightBecomesWrong();
        rightBecomesWrongFreely();
        laterRulingsOfTheTossup();
        severalTossups();
        matters();
        mattersWithEqualScores();
        scoreIfBits();
        Checks.finish("ProtestsTest");
    }

    private static void protest() {
        TossupHall hall = Halls.ready(3);
        Checks.fails("promise 32: no match", Halls.STATE, () -> hall.protest(-1));
        hall.match(0, 1, 0);
        Checks.fails("promise 32: no ruling", Halls.INDEX, () -> hall.protest(0));
        Halls.play(hall, 1, 0, "no");
        Checks.fails("promise 32: ruling -1", Halls.INDEX, () -> hall.protest(-1));
        Checks.fails("promise 32: ruling 1", Halls.INDEX, () -> hall.protest(1));
        Checks.same("promise 32: first", hall.protest(0), 1);
        Checks.fails("promise 32: again", Halls.UNSUPPORTED, () -> hall.protest(0));
        Halls.play(hall, 0, 2, "yes");
        Checks.same("promise 32: while the match goes on", hall.protest(1), 2);
        Halls.parts(hall, "111");
        hall.end();
        Checks.fails("promise 32: again behind the end", Halls.UNSUPPORTED, () -> hall.protest(1));
        Checks.same("promise 32: the score is as it was", hall.score(0, true), 45);
    }

    private static void protestLimit() {
        TossupHall hall = Halls.begun(3);
        for (int i = 0; i < 3; i++) {
            Halls.play(hall, 1, 0, "no");
            Halls.play(hall, 0, 2, "no");
        }
        for (int i = 0; i < 4; i++) {
            Checks.same("promise 32: lodged", hall.protest(5 - i), i + 1);
        }
        Checks.fails("promise 32: the 5th", Halls.UNSUPPORTED, () -> hall.protest(0));
        Checks.fails("promise 32: the 5th, of no ruling", Halls.INDEX, () -> hall.protest(6));
        Checks.fails("promise 33: there is none", Halls.UNSUPPORTED, () -> hall.resolve(0, 0, true));
        hall.resolve(0, 5, false);
        Checks.fails("promise 32: a resolved one still counts", Halls.UNSUPPORTED, () -> hall.protest(1));
    }

    private static void protestOfTheLastMatch() {
        TossupHall hall = Halls.begun(3);
        Halls.play(hall, 1, 0, "no");
        Halls.die(hall);
        hall.end();
        hall.protest(0);
        Halls.team(hall, 0);
        Halls.team(hall, 0);
        hall.match(2, 3, 0);
        Checks.fails("promise 32: of the match before", Halls.INDEX, () -> hall.protest(0));
        Halls.play(hall, 1, 4, "no");
        Checks.same("promise 32: of this match", hall.protest(0), 1);
        Checks.same("promise 33: of the match before", hall.resolve(0, 0, true), 15);
        Checks.fails("promise 33: of the one that goes on", Halls.UNSUPPORTED, () -> hall.resolve(1, 0, true));
    }

    private static void resolve() {
        TossupHall hall = Halls.begun(3);
        Halls.play(hall, 1, 0, "no");
        Halls.die(hall);
        Halls.play(hall, 2, 2, "no");
        Halls.die(hall);
        hall.protest(1);
        hall.protest(0);
        hall.end();
        Checks.same("promise 33: not upheld", hall.resolve(0, 0, false), -5);
        Checks.same("promise 33: that of the other team", hall.resolve(0, 1, true), -5);
        Checks.same("promise 29: upheld", hall.score(0, true), 10);
        Checks.fails("promise 33: it is resolved", Halls.UNSUPPORTED, () -> hall.resolve(0, 0, true));
        Checks.fails("promise 33: so is the other", Halls.UNSUPPORTED, () -> hall.resolve(0, 1, false));
        Checks.same("promise 29: nothing was changed", hall.score(0, false), -5);
        Checks.holds("promise 45: sound", hall.isSound());
    }

    private static void resolveWrongInputs() {
        TossupHall hall = Halls.begun(2);
        Halls.play(hall, 1, 0, "no");
        Halls.play(hall, 0, 2, "no");
        hall.protest(0);
        Checks.fails("promise 33: match -1", Halls.INDEX, () -> hall.resolve(-1, 0, true));
        Checks.fails("promise 33: match 1", Halls.INDEX, () -> hall.resolve(1, 0, true));
        Checks.fails("promise 33: ruling -1", Halls.INDEX, () -> hall.resolve(0, -1, true));
        Checks.fails("promise 33: ruling 2", Halls.INDEX, () -> hall.resolve(0, 2, true));
        Checks.fails("promise 33: the match goes on", Halls.UNSUPPORTED, () -> hall.resolve(0, 0, true));
        hall.end();
        Checks.fails("promise 33: no protest", Halls.UNSUPPORTED, () -> hall.resolve(0, 1, true));
        Checks.same("promise 33: then", hall.resolve(0, 0, true), 15);
    }

    private static void wrongBecomesRight() {
        TossupHall hall = Halls.begun(3);
        Halls.play(hall, 1, 0, "no");
        Halls.play(hall, 2, 2, "yes");
        Halls.parts(hall, "1011");
        hall.protest(0);
        Checks.same("promise 35: as ruled, first", hall.scoreIf(0, 0, false), 5);
        Checks.same("promise 35: as ruled, other", hall.scoreIf(0, 0, true), 30);
        Checks.same("promise 35: 15 in place of -5", hall.scoreIf(0, 1, false), 15);
        Checks.same("promise 35: all behind it brings nothing", hall.scoreIf(0, 1, true), 0);
        Halls.play(hall, 4, 2, "no");
        Halls.die(hall);
        hall.protest(2);
        Checks.same("promise 35: 10 in place of 0", hall.scoreIf(0, 2, true), 40);
        Checks.same("promise 35: the tossup before stays", hall.scoreIf(0, 2, false), 5);
        Checks.same("promise 35: both", hall.scoreIf(0, 3, true), 10);
        Checks.same("promise 29: nothing is upheld", hall.score(0, true), 30);
    }

    private static void rightBecomesWrong() {
        TossupHall hall = Halls.begun(3);
        Halls.play(hall, 1, 2, "yes");
        Halls.parts(hall, "0111");
        hall.protest(0);
        Checks.same("promise 35: as ruled", hall.scoreIf(0, 0, true), 35);
        Checks.same("promise 35: -5 in place of 15 and its bonus", hall.scoreIf(0, 1, true), -5);
        Checks.same("promise 35: its bonus for the other", hall.scoreIf(0, 1, false), 0);
        hall.end();
        Checks.same("promise 33: the first team's", hall.resolve(0, 0, true), 0);
        Checks.same("promise 29: upheld", hall.score(0, true), -5);
        Checks.holds("promise 45: sound", hall.isSound());
    }

    private static void rightBecomesWrongFreely() {
        TossupHall hall = Halls.begun(3);
        Halls.play(hall, 4, 0, "yes");
        Halls.parts(hall, "111");
        Halls.play(hall, 1, 2, "no");
        Halls.play(hall, 0, 0, "yes");
        Halls.parts(hall, "111");
        hall.protest(0);
        hall.protest(2);
        Checks.same("promise 35: behind all words", hall.scoreIf(0, 1, false), 45);
        Checks.same("promise 35: the other was blocked", hall.scoreIf(0, 2, false), 40);
        Checks.same("promise 35: both", hall.scoreIf(0, 3, false), 0);
        Checks.same("promise 35: the other team's", hall.scoreIf(0, 3, true), -5);
    }

    private static void laterRulingsOfTheTossup() {
        TossupHall hall = Halls.begun(2);
        Halls.play(hall, 1, 0, "no");
        Halls.play(hall, 0, 2, "no");
        Halls.play(hall, 1, 1, "no");
        Halls.play(hall, 1, 3, "yes");
        hall.protest(1);
        hall.protest(0);
        hall.protest(3);
        Checks.same("promise 35: the later one alone", hall.scoreIf(0, 1, true), 25);
        Checks.same("promise 35: both, the later brings nothing", hall.scoreIf(0, 3, true), 10);
        Checks.same("promise 35: both, the earlier", hall.scoreIf(0, 3, false), 15 - 5);
        Checks.same("promise 35: of the next tossup", hall.scoreIf(0, 4, true), 0);
    }

    private static void severalTossups() {
        TossupHall hall = Halls.begun(4);
        Halls.play(hall, 1, 0, "yes");
        Halls.parts(hall, "111");
        Halls.play(hall, 1, 2, "yes");
        Halls.parts(hall, "110");
        hall.protest(0);
        Checks.same("promise 35: in the bonus, too", hall.scoreIf(0, 1, false), -5);
        Checks.same("promise 35: the bonus of the next stays", hall.scoreIf(0, 1, true), 35);
        hall.part(true);
        Checks.same("promise 35: a bounce of the next stays", hall.scoreIf(0, 1, false), 5);
        hall.end();
        hall.resolve(0, 0, true);
        Checks.same("promise 35: only those told", hall.scoreIf(0, 0, false), 55);
        Checks.same("promise 29: with those upheld", hall.score(0, false), 5);
    }

    private static void matters() {
        TossupHall hall = Halls.begun(3);
        Checks.fails("promise 34: match -1", Halls.INDEX, () -> hall.matters(-1));
        Checks.fails("promise 34: match 1", Halls.INDEX, () -> hall.matters(1));
        Checks.holds("promise 34: no protests", !hall.matters(0));
        Halls.play(hall, 2, 0, "yes");
        Halls.parts(hall, "000000");
        Halls.play(hall, 2, 2, "no");
        Halls.die(hall);
        Checks.holds("promise 34: none lodged", !hall.matters(0));
        // 10 to -5 as ruled: ruling 1 upheld makes it 10 to 10, ruling 0 upheld makes it -5 to -5.
        hall.protest(0);
        Checks.holds("promise 34: it would be equal", hall.matters(0));
        hall.protest(1);
        Checks.holds("promise 34: it could be the other", hall.matters(0));
        hall.end();
        hall.resolve(0, 0, false);
        Checks.holds("promise 34: one is left", hall.matters(0));
        hall.resolve(0, 1, true);
        Checks.holds("promise 34: none is left", !hall.matters(0));
    }

    private static void mattersWithEqualScores() {
        TossupHall hall = Halls.begun(3);
        Halls.play(hall, 1, 0, "yes");
        Halls.parts(hall, "111");
        Halls.play(hall, 1, 2, "no");
        Halls.die(hall);
        hall.protest(1);
        Checks.holds("promise 34: the winner is the same", !hall.matters(0));
        hall.protest(0);
        Checks.holds("promise 34: together they matter", hall.matters(0));
        hall.end();
        hall.resolve(0, 0, true);
        Checks.holds("promise 34: equal as it is, but not if upheld", hall.matters(0));
        hall.resolve(0, 1, false);
        Checks.holds("promise 34: resolved", !hall.matters(0));
    }

    private static void scoreIfBits() {
        TossupHall hall = Halls.begun(2);
        Checks.fails("promise 35: match -1", Halls.INDEX, () -> hall.scoreIf(-1, 0, false));
        Checks.fails("promise 35: match 1", Halls.INDEX, () -> hall.scoreIf(1, 0, false));
        Checks.same("promise 35: no protests", hall.scoreIf(0, -1, false), 0);
        Halls.play(hall, 1, 0, "no");
        Halls.die(hall);
        Halls.play(hall, 1, 2, "no");
        hall.protest(1);
        hall.protest(0);
        Checks.same("promise 35: bit 0 is the first lodged", hall.scoreIf(0, 1, true), 15);
        Checks.same("promise 35: not the first ruling", hall.scoreIf(0, 1, false), -5);
        Checks.same("promise 35: bit 1", hall.scoreIf(0, 2, false), 15);
        Checks.same("promise 35: other bits mean nothing", hall.scoreIf(0, ~3, false), -5);
        Checks.same("promise 35: all bits", hall.scoreIf(0, -1, false), 15);
        Checks.same("promise 35: the highest bit", hall.scoreIf(0, Integer.MIN_VALUE, true), -5);
    }
}
