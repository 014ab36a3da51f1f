/** Promises 32 to 35, sentence by sentence: protests, and the scores under their outcomes. */
final class ProtestEdges extends Edges {
    private ProtestEdges() {
    }

    /** A match that ended, of so many tossups of which each was answered wrongly by player 0 behind so many words. */
    private static TossupHall wrong(int tossups, int words) {
        TossupHall hall = Halls.begun(tossups);
        for (int i = 0; i < tossups; i++) {
            played(hall, words, 0, "no");
            Halls.die(hall);
        }
        return hall;
    }

    /** A match that ended, of one tossup: player 0 was wrong behind 1 word, player 2 right behind these; a bonus of 20 and 10. */
    private static TossupHall wrongThenRight(int words) {
        TossupHall hall = played(Halls.begun(1), 1, 0, "no");
        played(hall, words - 1, 2, "yes");
        Halls.parts(hall, "1011");
        return hall;
    }

    /** A match that ended, of one tossup, which player 0 had right behind so many words; a bonus of 20 and 10. */
    private static TossupHall right(int words) {
        TossupHall hall = played(Halls.begun(1), words, 0, "yes");
        Halls.parts(hall, "1011");
        return hall;
    }

    private static TossupHall lodged(TossupHall hall, int... rulings) {
        for (int ruling : rulings) {
            hall.protest(ruling);
        }
        return hall;
    }

    private static TossupHall upheld(TossupHall hall, int... rulings) {
        lodged(hall, rulings);
        for (int ruling : rulings) {
            hall.resolve(0, ruling, true);
        }
        return hall;
    }

    /** Two matches that ended, of one tossup each: player 0 was wrong in the first, and player 2 in the second. */
    private static TossupHall twoMatches() {
        TossupHall hall = new TossupHall();
        for (int i = 0; i < 2; i++) {
            Halls.question(hall, 0, i, 4);
            Halls.line(hall, i, 'a', "yes");
        }
        hall.quota(0, 1);
        hall.packet();
        hall.packet();
        Halls.team(hall, 0, 0);
        Halls.team(hall, 0, 0);
        for (int i = 0; i < 2; i++) {
            hall.match(0, 1, i);
            played(hall, 1, 2 * i, "no");
            Halls.die(hall);
        }
        return hall;
    }

    // ---- promise 32

    @Promise(value = 32, says = "Throws IllegalStateException if there was no match")
    private static void p32NoMatch() {
        refuses("a new hall", STATE, new TossupHall(), h -> h.protest(0));
        refuses("teams and a packet", STATE, Halls.ready(1), h -> h.protest(0));
        answers("in a match", 1, played(Halls.begun(1), 1, 0, "no"), h -> h.protest(0));
        answers("behind a match", 1, wrong(1, 1), h -> h.protest(0));
    }

    @Promise(value = 32, says = "Throws IndexOutOfBoundsException if it has no such ruling")
    private static void p32NoRuling() {
        range("ruling", 0, 4, INDEX, () -> wrong(5, 1), (h, v) -> h.protest(v));
        range("ruling of one", 0, 0, INDEX, () -> wrong(1, 1), (h, v) -> h.protest(v));
        beyond("ruling, none", 0, -1, INDEX, Halls.begun(1), (h, v) -> h.protest(v));
        beyond("ruling, none in a match that ended", 0, -1, INDEX, Halls.emptyMatches(1), (h, v) -> h.protest(v));
        TossupHall prompted = Halls.begun(1);
        Halls.play(prompted, 1, 0, "may");
        refuses("a prompt is none", INDEX, prompted, h -> h.protest(0));
    }

    @Promise(value = 32, says = "Throws UnsupportedOperationException if one was lodged against it, or 4 were")
    private static void p32AgainOrFull() {
        refuses("again", UNSUPPORTED, lodged(wrong(2, 1), 1), h -> h.protest(1));
        refuses("again, behind another", UNSUPPORTED, lodged(wrong(2, 1), 1, 0), h -> h.protest(1));
        refuses("again, as it was upheld", UNSUPPORTED, upheld(wrong(1, 1), 0), h -> h.protest(0));
        TossupHall rejected = lodged(wrong(1, 1), 0);
        rejected.resolve(0, 0, false);
        refuses("again, as it was not upheld", UNSUPPORTED, rejected, h -> h.protest(0));
        answers("the 4th", 4, lodged(wrong(5, 1), 4, 3, 2), h -> h.protest(1));
        TossupHall full = lodged(wrong(5, 1), 4, 3, 2, 1);
        refuses("the 5th", UNSUPPORTED, full, h -> h.protest(0));
        for (int ruling = 1; ruling < 5; ruling++) {
            full.resolve(0, ruling, false);
        }
        refuses("the 5th, as 4 are resolved", UNSUPPORTED, full, h -> h.protest(0));
    }

    @Promise(value = 32, says = ORDER)
    private static void p32Order() {
        refuses("no match, no ruling", STATE, Halls.ready(1), h -> h.protest(-1));
        refuses("no ruling, 4 protests", INDEX, lodged(wrong(4, 1), 0, 1, 2, 3), h -> h.protest(4));
        refuses("no ruling, 4 protests, below", INDEX, lodged(wrong(4, 1), 0, 1, 2, 3), h -> h.protest(-1));
    }

    @Promise(value = 32, says = "Returns how many were lodged in this match.")
    private static void p32HowMany() {
        TossupHall hall = Halls.begun(5);
        for (int i = 0; i < 4; i++) {
            played(hall, 4, 0, "no");
            int ruling = i;
            answers("while the match goes on", i + 1, hall, h -> h.protest(ruling));
            hall.dead();
        }
        TossupHall resolved = upheld(wrong(2, 1), 0);
        answers("resolved ones, too", 2, resolved, h -> h.protest(1));
    }

    @Promise(value = 32, says = "Lodges a protest against a ruling of the last match.")
    private static void p32LastMatch() {
        TossupHall hall = twoMatches();
        answers("of the second", 1, hall, h -> h.protest(0));
        refuses("none against the first", UNSUPPORTED, hall, h -> h.resolve(0, 0, true));
        answers("the first team then", 0, hall, h -> h.resolve(1, 0, true));
        answers("as before", -5, hall, h -> h.score(0, false));
        answers("the other team", 10, hall, h -> h.score(1, true));
    }

    @Promise(value = 32, says = "A protest is lodged against a ruling of this match, once, at most 4 in a match, by a call, "
        + "as long as no other match began.")
    private static void p32AsLongAsNoOtherBegan() {
        TossupHall hall = wrong(1, 1);
        refuses("a match that does not begin", UNSUPPORTED, hall, h -> h.match(0, 1, 0));
        answers("no other began", 1, hall, h -> h.protest(0));

        TossupHall two = lodged(twoMatches(), 0);
        two.question(1, 50);
        two.quota(0, 0);
        two.quota(1, 1);
        two.packet();
        two.match(0, 1, 2);
        refuses("another one began, which has no ruling", INDEX, two, h -> h.protest(0));
        answers("the one before can still be resolved", 0, two, h -> h.resolve(1, 0, true));
        two.end();
        refuses("another one was", INDEX, two, h -> h.protest(0));

        TossupHall each = new TossupHall();
        for (int i = 0; i < 12; i++) {
            Halls.question(each, i % 2, i, 4);
        }
        each.quota(0, 3);
        each.quota(1, 2);
        each.packet();
        each.packet();
        Halls.team(each, 0);
        Halls.team(each, 0);
        for (int i = 0; i < 2; i++) {
            each.match(0, 1, i);
            for (int j = 0; j < 5; j++) {
                played(each, 4, 0, "no");
                each.dead();
            }
            lodged(each, 0, 1, 2);
            answers("4 in each match", 4, each, h -> h.protest(4));
            refuses("not 5 in match " + i, UNSUPPORTED, each, h -> h.protest(3));
        }
    }

    // ---- promise 33

    @Promise(value = 33, says = "Throws IndexOutOfBoundsException if there is no such match or ruling")
    private static void p33MatchAndRuling() {
        range("match", 0, 0, INDEX, () -> lodged(wrong(1, 1), 0), (h, v) -> h.resolve(v, 0, true));
        range("ruling", 0, 3, INDEX, () -> lodged(wrong(4, 1), 0, 1, 2, 3), (h, v) -> h.resolve(0, v, true));
        beyond("match, none", 0, -1, INDEX, Halls.ready(1), (h, v) -> h.resolve(v, 0, true));
        beyond("ruling, none", 0, -1, INDEX, Halls.emptyMatches(1), (h, v) -> h.resolve(0, v, false));
        beyond("match of 40", 0, 39, INDEX, Halls.emptyMatches(40), (h, v) -> h.resolve(v, 0, true));
        beyond("match of 2", 0, 1, INDEX, lodged(twoMatches(), 0), (h, v) -> h.resolve(v, 0, true));
    }

    @Promise(value = 33, says = "Throws UnsupportedOperationException if there is no protest against it, it is resolved, or the match goes on")
    private static void p33CannotBeResolved() {
        for (boolean isUpheld : new boolean[] {false, true}) {
            refuses("no protest", UNSUPPORTED, wrong(1, 1), h -> h.resolve(0, 0, isUpheld));
            refuses("against another one", UNSUPPORTED, lodged(wrong(2, 1), 0), h -> h.resolve(0, 1, isUpheld));
            for (boolean wasUpheld : new boolean[] {false, true}) {
                TossupHall resolved = lodged(wrong(1, 1), 0);
                resolved.resolve(0, 0, wasUpheld);
                refuses("resolved", UNSUPPORTED, resolved, h -> h.resolve(0, 0, isUpheld));
            }
        }
        TossupHall on = lodged(played(Halls.begun(2), 4, 0, "no"), 0);
        refuses("the match goes on", UNSUPPORTED, on, h -> h.resolve(0, 0, true));
        on.dead();
        refuses("between two tossups", UNSUPPORTED, on, h -> h.resolve(0, 0, false));
        on.end();
        answers("it ended", 10, on, h -> h.resolve(0, 0, true));
    }

    @Promise(value = 33, says = ORDER)
    private static void p33Order() {
        TossupHall on = lodged(played(Halls.begun(1), 1, 0, "no"), 0);
        refuses("no ruling, the match goes on", INDEX, on, h -> h.resolve(0, 1, true));
        refuses("no match, another one goes on", INDEX, on, h -> h.resolve(1, 0, true));
        refuses("no ruling, so that no protest", INDEX, wrong(1, 1), h -> h.resolve(0, 1, true));
    }

    @Promise(value = 33, says = "Returns the score of the first team then.")
    private static void p33FirstTeamsScore() {
        answers("upheld", 15, lodged(wrong(1, 1), 0), h -> h.resolve(0, 0, true));
        answers("not upheld", -5, lodged(wrong(1, 1), 0), h -> h.resolve(0, 0, false));
        TossupHall other = played(Halls.begun(1), 1, 2, "no");
        Halls.die(other);
        answers("of the other team", 0, lodged(other, 0), h -> h.resolve(0, 0, true));
        scores("of the other team", 0, 15, other);
        TossupHall two = lodged(wrong(2, 1), 1, 0);
        answers("one of two", 10, two, h -> h.resolve(0, 0, true));
        answers("both", 30, two, h -> h.resolve(0, 1, true));
    }

    @Promise(value = 33, says = "Resolves a protest.")
    private static void p33Resolves() {
        TossupHall rejected = lodged(wrong(1, 1), 0);
        rejected.resolve(0, 0, false);
        scores("not upheld", -5, 0, rejected);
        answers("it matters no more", 0, rejected, h -> bit(h.matters(0)));
        scores("upheld", 15, 0, upheld(wrong(1, 1), 0));
        answers("is sound", 1, upheld(wrong(1, 1), 0), h -> bit(h.isSound()));
    }

    @Promise(value = 33, says = "a wrong ruling that becomes right brings 15 in power, by the mark as it was then, else 10, "
        + "in place of what it brought")
    private static void p33WrongBecomesRight() {
        scores("behind 1 word of a mark of 2", 15, 0, upheld(wrong(1, 1), 0));
        scores("behind 2 words of a mark of 2", 10, 0, upheld(wrong(1, 2), 0));
        scores("behind all words, in place of 0", 10, 0, upheld(wrong(1, 4), 0));
        TossupHall higher = wrong(1, 2);
        higher.power(0, 40);
        scores("not by the mark as it is now", 10, 0, upheld(higher, 0));
        TossupHall lower = wrong(1, 1);
        lower.power(0, 0);
        scores("not by the mark as it is now, lower", 15, 0, upheld(lower, 0));
        for (int mark : new int[] {0, 4, 5, 40}) {
            TossupHall hall = Halls.begun(1);
            hall.power(0, mark);
            played(hall, 4, 2, "no");
            hall.dead();
            scores("behind 4 words of a mark of " + mark, 0, mark > 4 ? 15 : 10, upheld(hall, 0));
        }
    }

    @Promise(value = 33, says = "and all that came behind it in the same tossup, with its bonus, brings nothing, "
        + "and the bonus not heard brings nothing")
    private static void p33BehindItNothing() {
        scores("as it was", 5, 35, wrongThenRight(1));
        scores("right and its bonus behind it", 15, 0, upheld(wrongThenRight(1), 0));
        scores("as it was, not in power", 5, 30, wrongThenRight(2));
        scores("right, not in power", 15, 0, upheld(wrongThenRight(2), 0));
        TossupHall wrong = played(played(Halls.begun(1), 1, 2, "no"), 0, 0, "no");
        scores("wrong behind it", 0, 15, upheld(wrong, 0));
        TossupHall next = played(Halls.begun(2), 1, 0, "no");
        Halls.die(next);
        played(next, 1, 2, "yes");
        Halls.parts(next, "111");
        scores("the next tossup is as it was", 15, 45, upheld(next, 0));
        TossupHall before = played(Halls.begun(2), 1, 2, "yes");
        Halls.parts(before, "01011");
        played(before, 1, 0, "no");
        Halls.die(before);
        scores("the tossup before is as it was", 35, 25, upheld(before, 1));
    }

    @Promise(value = 33, says = "a right one that becomes wrong brings what a wrong one would have brought then, and its bonus brings nothing")
    private static void p33RightBecomesWrong() {
        scores("as it was", 35, 10, right(1));
        scores("behind 1 of 4 words", -5, 0, upheld(right(1), 0));
        scores("behind 3 of 4 words", -5, 0, upheld(right(3), 0));
        scores("behind all words", 0, 0, upheld(right(4), 0));
        scores("the other team was blocked", -5, 0, upheld(wrongThenRight(1), 1));
        scores("the other team was blocked, a later word", -5, 0, upheld(wrongThenRight(3), 1));
        TossupHall next = played(Halls.begun(2), 1, 0, "yes");
        Halls.parts(next, "111");
        played(next, 1, 0, "yes");
        Halls.parts(next, "0111");
        scores("the next tossup is as it was", 30, 10, upheld(next, 0));
    }

    @Promise(value = 33, says = "a ruling that brings nothing by an earlier one of its tossup that was upheld brings nothing, upheld or not.")
    private static void p33UpheldOrNot() {
        scores("both upheld", 15, 0, upheld(wrongThenRight(1), 0, 1));
        scores("both upheld, the later one first", 15, 0, upheld(wrongThenRight(1), 1, 0));
        TossupHall not = upheld(wrongThenRight(1), 0);
        not.protest(1);
        answers("the later one not upheld", 15, not, h -> h.resolve(0, 1, false));
        scores("the later one not upheld", 15, 0, not);
        TossupHall first = lodged(wrongThenRight(1), 0, 1);
        first.resolve(0, 0, false);
        answers("the earlier one not upheld", -5, first, h -> h.resolve(0, 1, true));
        scores("the earlier one not upheld", -5, 0, first);
        TossupHall twoWrong = played(played(Halls.begun(1), 1, 0, "no"), 3, 2, "no");
        scores("the later one of two wrong ones alone", -5, 10, upheld(twoWrong, 1));
        answers("then the earlier one", 15, lodged(twoWrong, 0), h -> h.resolve(0, 0, true));
        scores("then the earlier one", 15, 0, twoWrong);
    }

    // ---- promise 34

    @Promise(value = 34, says = "Throws IndexOutOfBoundsException if there is no such match")
    private static void p34Match() {
        range("match", 0, 39, INDEX, () -> Halls.emptyMatches(40), (h, v) -> bit(h.matters(v)));
        range("match", 0, 0, INDEX, () -> Halls.begun(1), (h, v) -> bit(h.matters(v)));
        beyond("match, none", 0, -1, INDEX, Halls.ready(1), (h, v) -> bit(h.matters(v)));
    }

    @Promise(value = 34, says = "Returns whether they do.")
    private static void p34WhetherTheyDo() {
        answers("no protest", 0, wrong(1, 1), h -> bit(h.matters(0)));
        answers("no ruling", 0, Halls.emptyMatches(1), h -> bit(h.matters(0)));
        answers("another winner", 1, lodged(wrong(1, 1), 0), h -> bit(h.matters(0)));
        answers("the same winner", 0, behind(15, 1), h -> bit(h.matters(0)));
        answers("while the match goes on", 1, lodged(played(Halls.begun(1), 1, 0, "no"), 0), h -> bit(h.matters(0)));
    }

    @Promise(value = 34, says = "Returns whether protests of a match matter that are not resolved.")
    private static void p34NotResolved() {
        for (boolean isUpheld : new boolean[] {false, true}) {
            TossupHall hall = lodged(wrong(1, 1), 0);
            hall.resolve(0, 0, isUpheld);
            answers("resolved", 0, hall, h -> bit(h.matters(0)));
        }
        TossupHall first = lodged(twoMatches(), 0);
        answers("of another match", 0, first, h -> bit(h.matters(0)));
        answers("of this match", 1, first, h -> bit(h.matters(1)));
    }

    /** The other team has so many points of one tossup; the first team was wrong behind all words of these more. */
    private static TossupHall behind(int points, int wrong) {
        TossupHall hall = Halls.begun(1 + wrong);
        played(hall, points % 10 == 0 ? 2 : 1, 2, "yes");
        Halls.parts(hall, points < 20 ? "000000" : "10000");
        for (int i = 0; i < wrong; i++) {
            played(hall, 4, 0, "no");
            hall.dead();
        }
        for (int i = 0; i < wrong; i++) {
            hall.protest(1 + i);
        }
        return hall;
    }

    @Promise(value = 34, says = "Protests matter if the winner under some of the outcomes of those not resolved is another one than "
        + "under the other outcomes, equal scores being an outcome of their own.")
    private static void p34Terms() {
        scores("behind by 10", 0, 10, behind(10, 1));
        answers("10 of 10, equal scores", 1, behind(10, 1), h -> bit(h.matters(0)));
        answers("10 of 15", 0, behind(15, 1), h -> bit(h.matters(0)));
        answers("20 of 15", 1, behind(15, 2), h -> bit(h.matters(0)));
        answers("20 of 20, equal scores", 1, behind(20, 2), h -> bit(h.matters(0)));
        answers("20 of 25", 0, behind(25, 2), h -> bit(h.matters(0)));
        answers("30 of 25", 1, behind(25, 3), h -> bit(h.matters(0)));
        answers("from equal scores", 1, lodged(wrong(1, 4), 0), h -> bit(h.matters(0)));
        TossupHall not = behind(15, 2);
        not.resolve(0, 2, false);
        answers("one of two was not upheld", 0, not, h -> bit(h.matters(0)));
        TossupHall one = behind(15, 2);
        one.resolve(0, 1, true);
        answers("one of two was upheld", 1, one, h -> bit(h.matters(0)));
        TossupHall won = behind(15, 3);
        won.resolve(0, 3, true);
        won.resolve(0, 1, true);
        answers("two were, which is enough", 0, won, h -> bit(h.matters(0)));
    }

    // ---- promise 35

    @Promise(value = 35, says = "Throws IndexOutOfBoundsException if there is no such match")
    private static void p35Match() {
        range("match", 0, 39, INDEX, () -> Halls.emptyMatches(40), (h, v) -> h.scoreIf(v, 15, false));
        range("match", 0, 0, INDEX, () -> Halls.begun(1), (h, v) -> h.scoreIf(v, 0, true));
        beyond("match, none", 0, -1, INDEX, Halls.ready(1), (h, v) -> h.scoreIf(v, 0, true));
    }

    /** Rulings 0 to 3, of one tossup each, that become 20, 15 and 10 more and 40 less if they are upheld; 25 at first. */
    private static TossupHall four() {
        TossupHall hall = Halls.begun(4);
        int[] words = {1, 2, 4};
        for (int i = 0; i < 3; i++) {
            played(hall, words[i], 0, "no");
            Halls.die(hall);
        }
        played(hall, 1, 0, "yes");
        Halls.parts(hall, "1101");
        return hall;
    }

    @Promise(value = 35, says = "rulings: the protests, by bits in the order of lodging, other bits being of no meaning")
    private static void p35Bits() {
        int[] changes = {-40, 15, 20, 10};
        for (int i = 0; i < 16; i++) {
            int due = 25;
            for (int bit = 0; bit < 4; bit++) {
                due += (i >> bit & 1) * changes[bit];
            }
            for (int others : new int[] {0, 16, 32, 1 << 30, Integer.MIN_VALUE, -16}) {
                int bits = i | others;
                answers("bits " + bits, due, lodged(four(), 3, 1, 0, 2), h -> h.scoreIf(0, bits, false));
            }
        }
        answers("no protest, all bits", 25, four(), h -> h.scoreIf(0, -1, false));
        answers("one protest, all others' bits", 25, lodged(four(), 3), h -> h.scoreIf(0, -2, false));
        answers("one protest, all bits", -15, lodged(four(), 3), h -> h.scoreIf(0, -1, false));
    }

    @Promise(value = 35, says = "Returns a score, if just the rulings told were upheld of all protests of a match.")
    private static void p35JustThose() {
        TossupHall hall = lodged(four(), 3, 1, 0, 2);
        hall.resolve(0, 0, true);
        hall.resolve(0, 1, false);
        answers("the score", 45, hall, h -> h.score(0, false));
        answers("none, also not the one that was upheld", 25, hall, h -> h.scoreIf(0, 0, false));
        answers("the one that was not upheld", 40, hall, h -> h.scoreIf(0, 2, false));
        answers("all", 30, hall, h -> h.scoreIf(0, 15, false));
        answers("the score stays", 45, hall, h -> h.score(0, false));
    }

    @Promise(value = 35, says = "Returns the score.")
    private static void p35Score() {
        TossupHall hall = lodged(wrongThenRight(2), 1, 0);
        int[][] due = {{5, 30}, {-5, 0}, {15, 0}, {15, 0}};
        for (int i = 0; i < 4; i++) {
            int bits = i;
            answers("the first team, bits " + i, due[i][0], hall, h -> h.scoreIf(0, bits, false));
            answers("the other team, bits " + i, due[i][1], hall, h -> h.scoreIf(0, bits, true));
        }
        TossupHall on = lodged(played(Halls.begun(1), 1, 0, "no"), 0);
        answers("while the match goes on", 15, on, h -> h.scoreIf(0, 1, false));
    }
}
