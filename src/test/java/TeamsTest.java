/** Promises 14 to 19: teams, players, what they know and what they have seen. */
public final class TeamsTest {
    public static void main(String[] args) {
        team();
        player();
        playerInMatch();
        know();
        see();
        canPlay();
        seenByMatches();
        Checks.finish("TeamsTest");
    }

    private static void team() {
        TossupHall hall = new TossupHall();
        Checks.fails("promise 14: school -1", Halls.ARGUMENT, () -> hall.team(-1));
        Checks.fails("promise 14: school 100", Halls.ARGUMENT, () -> hall.team(100));
        for (int i = 0; i < 8; i++) {
            Checks.same("promise 14: number", hall.team(i == 0 ? 99 : 0), i);
        }
        Checks.fails("promise 14: the 9th", Halls.STATE, () -> hall.team(0));
        Checks.fails("promise 14: the 9th, of no school", Halls.ARGUMENT, () -> hall.team(100));
        Checks.fails("promise 14: it was not added", Halls.INDEX, () -> hall.poolOf(8));
        Checks.same("promise 14: a player", hall.player(7, 0), 0);
    }

    private static void player() {
        TossupHall hall = new TossupHall();
        for (int i = 0; i < 6; i++) {
            hall.team(i);
        }
        Checks.fails("promise 15: team -1", Halls.INDEX, () -> hall.player(-1, -1));
        Checks.fails("promise 15: team 6", Halls.INDEX, () -> hall.player(6, 0));
        Checks.fails("promise 15: reaction -1", Halls.ARGUMENT, () -> hall.player(0, -1));
        Checks.fails("promise 15: reaction 100000", Halls.ARGUMENT, () -> hall.player(0, 100000));
        for (int i = 0; i < 20; i++) {
            Checks.same("promise 15: number", hall.player(i / 4, i == 0 ? 99999 : 0), i);
            if (i == 3) {
                Checks.fails("promise 15: the 5th of a team", Halls.STATE, () -> hall.player(0, 0));
                Checks.fails("promise 15: the 5th, no reaction", Halls.ARGUMENT, () -> hall.player(0, -1));
            }
        }
        Checks.fails("promise 15: the 21st", Halls.STATE, () -> hall.player(5, 0));
        Checks.fails("promise 15: the 21st, no reaction", Halls.ARGUMENT, () -> hall.player(5, 100000));
        Checks.fails("promise 15: it was not added", Halls.INDEX, () -> hall.seen(20));
    }

    private static void playerInMatch() {
        TossupHall hall = Halls.begun(2);
        hall.team(3);
        Checks.fails("promise 15: a match goes on", Halls.STATE, () -> hall.player(2, 0));
        Checks.fails("promise 15: a match goes on, no reaction", Halls.ARGUMENT, () -> hall.player(2, -1));
        Halls.play(hall, 1, 0, "yes");
        Checks.fails("promise 15: a bonus is on", Halls.STATE, () -> hall.player(2, 0));
        Halls.parts(hall, "111");
        hall.end();
        Checks.same("promise 15: it is over", hall.player(2, 0), 4);
    }

    private static void know() {
        TossupHall hall = new TossupHall();
        Halls.team(hall, 0, 0);
        Checks.fails("promise 16: player -1", Halls.INDEX, () -> hall.know(-1, 9, 9));
        Checks.fails("promise 16: player 2", Halls.INDEX, () -> hall.know(2, 0, 0));
        Checks.fails("promise 16: category -1", Halls.ARGUMENT, () -> hall.know(0, -1, 0));
        Checks.fails("promise 16: category 6", Halls.ARGUMENT, () -> hall.know(0, 6, 0));
        Checks.fails("promise 16: knowledge -1", Halls.ARGUMENT, () -> hall.know(0, 0, -1));
        Checks.fails("promise 16: knowledge 10", Halls.ARGUMENT, () -> hall.know(0, 0, 10));
        for (int i = 0; i < 6; i++) {
            Checks.same("promise 16: at first", hall.know(0, i, 9 - i), 0);
        }
        for (int i = 0; i < 6; i++) {
            Checks.same("promise 16: then", hall.know(0, i, 0), 9 - i);
        }
        Checks.same("promise 16: the other player", hall.know(1, 0, 4), 0);
        Checks.fails("promise 16: 10 again", Halls.ARGUMENT, () -> hall.know(1, 0, 10));
        Checks.same("promise 16: nothing was changed", hall.know(1, 0, 9), 4);
    }

    private static void see() {
        TossupHall hall = new TossupHall();
        Halls.team(hall, 0, 0);
        for (int i = 0; i < 24; i++) {
            hall.question(0, i);
        }
        Checks.fails("promise 17: player -1", Halls.INDEX, () -> hall.see(-1, 0));
        Checks.fails("promise 17: player 2", Halls.INDEX, () -> hall.see(2, 0));
        Checks.fails("promise 17: question -1", Halls.INDEX, () -> hall.see(0, -1));
        Checks.fails("promise 17: question 24", Halls.INDEX, () -> hall.see(0, 24));
        Checks.fails("promise 18: player -1", Halls.INDEX, () -> hall.seen(-1));
        Checks.fails("promise 18: player 2", Halls.INDEX, () -> hall.seen(2));
        for (int i = 0; i < 24; i++) {
            Checks.same("promise 18: how many", hall.seen(0), i);
            Checks.holds("promise 17: new", hall.see(0, i));
            Checks.holds("promise 17: not new", !hall.see(0, i));
        }
        Checks.same("promise 18: all", hall.seen(0), 24);
        Checks.same("promise 18: the other player", hall.seen(1), 0);
        Checks.holds("promise 17: new to the other", hall.see(1, 5));
    }

    private static void canPlay() {
        TossupHall hall = Halls.ready(3);
        hall.question(5, 80);
        hall.team(9);
        Checks.fails("promise 19: team -1", Halls.INDEX, () -> hall.canPlay(-1, 0));
        Checks.fails("promise 19: team 3", Halls.INDEX, () -> hall.canPlay(3, 0));
        Checks.fails("promise 19: packet -1", Halls.INDEX, () -> hall.canPlay(0, -1));
        Checks.fails("promise 19: packet 1", Halls.INDEX, () -> hall.canPlay(0, 1));
        Checks.holds("promise 19: nothing seen", hall.canPlay(0, 0));
        Checks.holds("promise 19: no players", !hall.canPlay(2, 0));
        hall.see(1, 3);
        Checks.holds("promise 19: another question seen", hall.canPlay(0, 0));
        hall.see(1, 2);
        Checks.holds("promise 19: one player has seen the last one", !hall.canPlay(0, 0));
        Checks.holds("promise 19: the other team", hall.canPlay(1, 0));
        hall.player(2, 0);
        Checks.holds("promise 19: a player came", hall.canPlay(2, 0));
    }

    private static void seenByMatches() {
        TossupHall hall = Halls.ready(3);
        Halls.team(hall, 0);
        hall.match(0, 1, 0);
        Checks.holds("promise 19: no word was read", hall.canPlay(0, 0));
        hall.end();
        Checks.same("promise 18: no word was read", hall.seen(0), 0);
        hall.match(0, 1, 0);
        hall.read(1);
        Checks.same("promise 18: not before it ends", hall.seen(0), 0);
        Halls.die(hall);
        hall.read(1);
        hall.see(0, 1);
        Halls.die(hall);
        Checks.same("promise 18: still not", hall.seen(3), 0);
        Checks.holds("promise 17: new in the match", hall.see(3, 0));
        hall.end();
        for (int i = 0; i < 4; i++) {
            Checks.same("promise 18: two were read", hall.seen(i), 2);
            int player = i;
            Checks.holds("promise 17: the third was not", hall.see(player, 2));
            Checks.holds("promise 17: the first was", !hall.see(player, 0));
        }
        Checks.same("promise 18: who did not play", hall.seen(4), 0);
        Checks.holds("promise 19: who played cannot", !hall.canPlay(1, 0));
        hall.player(0, 0);
        Checks.same("promise 18: who came later", hall.seen(5), 0);
        Checks.holds("promise 19: others of the team have seen", !hall.canPlay(0, 0));
        Checks.holds("promise 19: who did not play can", hall.canPlay(2, 0));
    }
}
