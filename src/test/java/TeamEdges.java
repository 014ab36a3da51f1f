import java.util.function.Supplier;

/** Promises 14 to 19, sentence by sentence: teams, players, what they know and what they have seen. */
final class TeamEdges extends Edges {
    private TeamEdges() {
    }

    private static TossupHall teams(int teams) {
        TossupHall hall = new TossupHall();
        for (int i = 0; i < teams; i++) {
            hall.team(i);
        }
        return hall;
    }

    /** Eight teams, and so many players, of whom each team in turn has 4. */
    private static TossupHall players(int players) {
        TossupHall hall = teams(8);
        for (int i = 0; i < players; i++) {
            hall.player(i / 4, 0);
        }
        return hall;
    }

    /** 24 questions of one word, of which 0 and 23 are in packet 0 and 1 in packet 1; two teams of 4 and one of none. */
    private static TossupHall packed() {
        TossupHall hall = new TossupHall();
        for (int i = 0; i < 24; i++) {
            Halls.question(hall, i == 1 ? 2 : i == 23 ? 1 : 0, i, 1);
        }
        hall.quota(0, 1);
        hall.quota(1, 1);
        hall.packet();
        hall.quota(0, 0);
        hall.quota(1, 0);
        hall.quota(2, 1);
        hall.packet();
        Halls.team(hall, 0, 0, 0, 0);
        Halls.team(hall, 0, 0, 0, 0);
        hall.team(0);
        return hall;
    }

    // ---- promise 14

    @Promise(value = 14, says = "Throws IllegalArgumentException if there is no such school")
    private static void p14NoSchool() {
        beyond("school", 0, 99, ARGUMENT, teams(0), (h, v) -> h.team(v));
        beyond("school", 0, 99, ARGUMENT, teams(7), (h, v) -> h.team(v));
    }

    @Promise(value = 14, says = "school: the school, 0 to 99")
    private static void p14School() {
        range("school", 0, 99, ARGUMENT, TossupHall::new, (h, v) -> h.team(v));
        answers("the same school again", 1, teams(1), h -> h.team(0));
    }

    @Promise(value = 14, says = "Throws IllegalStateException if there are 8")
    private static void p14Full() {
        answers("the 8th", 7, teams(7), h -> h.team(99));
        refuses("the 9th", STATE, teams(8), h -> h.team(0));
    }

    @Promise(value = 14, says = ORDER)
    private static void p14Order() {
        refuses("the 9th, of a school above", ARGUMENT, teams(8), h -> h.team(100));
        refuses("the 9th, of a school below", ARGUMENT, teams(8), h -> h.team(-1));
    }

    @Promise(value = 14, says = "Returns its number.")
    private static void p14Number() {
        TossupHall hall = new TossupHall();
        for (int i = 0; i < 8; i++) {
            answers("of a team", i, hall, h -> h.team(50));
        }
    }

    @Promise(value = 14, says = "Adds a team without players.")
    private static void p14WithoutPlayers() {
        answers("it cannot play", 0, packed(), h -> bit(h.canPlay(2, 0)));
        TossupHall hall = teams(1);
        refuses("no player is there", INDEX, hall, h -> h.seen(0));
        for (int i = 0; i < 4; i++) {
            answers("a player of it", i, hall, h -> h.player(0, 0));
        }
        TossupHall playing = Halls.begun(1);
        answers("while a match goes on", 2, playing, h -> h.team(0));
    }

    @Promise(value = 14, says = "At most 8 teams have numbers from 0 on, each of a school, with at most 4 players")
    private static void p14Terms() {
        TossupHall hall = teams(8);
        for (int i = 0; i < 8; i++) {
            int team = i;
            answers("team " + i, 0, hall, h -> h.poolOf(team));
        }
        refuses("team 8", INDEX, hall, h -> h.poolOf(8));
    }

    // ---- promise 15

    @Promise(value = 15, says = "Throws IndexOutOfBoundsException if there is no such team")
    private static void p15Team() {
        range("team", 0, 7, INDEX, () -> teams(8), (h, v) -> h.player(v, 0));
        range("team", 0, 0, INDEX, () -> teams(1), (h, v) -> h.player(v, 0));
        beyond("team", 0, -1, INDEX, teams(0), (h, v) -> h.player(v, 0));
    }

    @Promise(value = 15, says = "Throws IllegalArgumentException if it is out of range")
    private static void p15NoReaction() {
        beyond("reaction", 0, 99999, ARGUMENT, players(3), (h, v) -> h.player(0, v));
    }

    @Promise(value = 15, says = "reaction: the reaction, 0 to 99999")
    private static void p15Reaction() {
        range("reaction", 0, 99999, ARGUMENT, () -> teams(1), (h, v) -> h.player(0, v));
    }

    @Promise(value = 15, says = "Throws IllegalStateException if there are 20 players")
    private static void p15TwentyPlayers() {
        answers("the 20th", 19, players(19), h -> h.player(7, 0));
        refuses("the 21st", STATE, players(20), h -> h.player(7, 0));
    }

    @Promise(value = 15, says = "the team has 4")
    private static void p15FourInATeam() {
        answers("the 4th", 3, players(3), h -> h.player(0, 0));
        TossupHall four = players(4);
        refuses("the 5th", STATE, four, h -> h.player(0, 0));
        answers("of another team", 4, four, h -> h.player(1, 0));
    }

    @Promise(value = 15, says = "or a match goes on")
    private static void p15WhileAMatchGoesOn() {
        TossupHall hall = Halls.begun(2);
        int third = hall.team(0);
        refuses("ahead of the first word", STATE, hall, h -> h.player(0, 0));
        refuses("of a team that does not play", STATE, hall, h -> h.player(third, 0));
        hall.read(1);
        refuses("in a tossup", STATE, hall, h -> h.player(0, 0));
        hall.buzz(0, 0);
        refuses("buzzes are told", STATE, hall, h -> h.player(0, 0));
        hall.lock();
        refuses("somebody answers", STATE, hall, h -> h.player(0, 0));
        Halls.answer(hall, "yes");
        refuses("in a bonus", STATE, hall, h -> h.player(0, 0));
        Halls.parts(hall, "111");
        refuses("between two tossups", STATE, hall, h -> h.player(0, 0));
        hall.end();
        answers("behind the match", 4, hall, h -> h.player(0, 0));
    }

    @Promise(value = 15, says = ORDER)
    private static void p15Order() {
        refuses("no team, no reaction", INDEX, teams(1), h -> h.player(1, 100000));
        refuses("no team, 20 players", INDEX, players(20), h -> h.player(8, 0));
        refuses("no reaction, 20 players", ARGUMENT, players(20), h -> h.player(7, -1));
        refuses("no reaction, 4 in the team", ARGUMENT, players(4), h -> h.player(0, 100000));
        refuses("no reaction, a match", ARGUMENT, Halls.begun(1), h -> h.player(0, 100000));
        refuses("no team, a match", INDEX, Halls.begun(1), h -> h.player(2, 0));
    }

    @Promise(value = 15, says = "Returns the number of the player.")
    private static void p15Number() {
        TossupHall hall = teams(8);
        for (int i = 0; i < 20; i++) {
            int team = i % 8;
            answers("in turn", i, hall, h -> h.player(team, 0));
        }
    }

    @Promise(value = 15, says = "Adds a player to a team.")
    private static void p15Adds() {
        TossupHall hall = packed();
        answers("the 9th player", 8, hall, h -> h.player(2, 99999));
        answers("the team can play now", 1, hall, h -> bit(h.canPlay(2, 0)));
        answers("has seen nothing", 0, hall, h -> h.seen(8));
    }

    // ---- promise 16

    @Promise(value = 16, says = "Throws IndexOutOfBoundsException if there is no such player")
    private static void p16Player() {
        range("player", 0, 19, INDEX, () -> players(20), (h, v) -> h.know(v, 0, 1));
        range("player", 0, 0, INDEX, () -> players(1), (h, v) -> h.know(v, 0, 1));
        beyond("player", 0, -1, INDEX, teams(8), (h, v) -> h.know(v, 0, 1));
    }

    @Promise(value = 16, says = "Throws IllegalArgumentException if there is no such category, or it is out of range")
    private static void p16CategoryAndKnowledge() {
        range("category", 0, 5, ARGUMENT, () -> players(1), (h, v) -> h.know(0, v, 9));
        range("knowledge", 0, 9, ARGUMENT, () -> players(1), (h, v) -> h.know(0, 5, v));
        refuses("neither", ARGUMENT, players(1), h -> h.know(0, 6, 10));
    }

    @Promise(value = 16, says = ORDER)
    private static void p16Order() {
        refuses("no player, no category", INDEX, players(1), h -> h.know(1, 6, 0));
        refuses("no player, no knowledge", INDEX, players(1), h -> h.know(-1, 0, 10));
    }

    @Promise(value = 16, says = "Returns the knowledge before.")
    private static void p16Before() {
        TossupHall hall = players(2);
        answers("at first", 0, hall, h -> h.know(0, 0, 9));
        answers("the greatest", 9, hall, h -> h.know(0, 0, 0));
        answers("the least", 0, hall, h -> h.know(0, 0, 3));
        answers("the same", 3, hall, h -> h.know(0, 0, 3));
        answers("of another category", 0, hall, h -> h.know(0, 1, 3));
        answers("of another player", 0, hall, h -> h.know(1, 0, 3));
    }

    @Promise(value = 16, says = "Sets the knowledge of a player.")
    private static void p16Sets() {
        TossupHall hall = Halls.begun(2);
        hall.power(0, 4);
        answers("without knowledge, the last word", 4, hall, h -> h.best(0, 0));
        answers("while a match goes on", 0, hall, h -> h.know(0, 0, 9));
        answers("all of it, the last word in power", 3, hall, h -> h.best(0, 0));
        answers("of another one", 4, hall, h -> h.best(1, 0));
    }

    @Promise(value = 16, says = "players have numbers from 0 on, at most 20, each with a knowledge of each category, 0 to 9, "
        + "0 at first, and a reaction in microseconds.")
    private static void p16Terms() {
        TossupHall hall = players(20);
        for (int i = 0; i < 20; i++) {
            for (int j = 0; j < 6; j++) {
                int player = i;
                int category = j;
                answers("0 at first", 0, hall, h -> h.know(player, category, (player + category) % 10));
            }
        }
        for (int i = 0; i < 20; i++) {
            for (int j = 0; j < 6; j++) {
                int player = i;
                int category = j;
                answers("each of its own", (i + j) % 10, hall, h -> h.know(player, category, 0));
            }
        }
    }

    // ---- promise 17

    @Promise(value = 17, says = "Throws IndexOutOfBoundsException if there is no such player or question")
    private static void p17PlayerAndQuestion() {
        range("player", 0, 7, INDEX, TeamEdges::packed, (h, v) -> bit(h.see(v, 0)));
        range("question", 0, 23, INDEX, TeamEdges::packed, (h, v) -> bit(h.see(0, v)));
        Supplier<TossupHall> one = () -> Halls.ready(1);
        range("player", 0, 3, INDEX, one, (h, v) -> bit(h.see(v, 0)));
        range("question", 0, 0, INDEX, one, (h, v) -> bit(h.see(0, v)));
        beyond("player, none", 0, -1, INDEX, teams(1), (h, v) -> bit(h.see(v, v)));
        beyond("question, none", 0, -1, INDEX, players(1), (h, v) -> bit(h.see(0, v)));
        refuses("question 32, which is no 0", INDEX, packed(), h -> bit(h.see(0, 32)));
    }

    @Promise(value = 17, says = "Returns whether that is new.")
    private static void p17New() {
        TossupHall hall = packed();
        for (int i = 0; i < 24; i++) {
            int question = i;
            answers("question " + i, 1, hall, h -> bit(h.see(0, question)));
        }
        for (int i = 0; i < 24; i++) {
            int question = i;
            answers("again question " + i, 0, hall, h -> bit(h.see(0, question)));
        }
        answers("to another player", 1, hall, h -> bit(h.see(1, 23)));
    }

    @Promise(value = 17, says = "Tells that a player has seen a question.")
    private static void p17Tells() {
        TossupHall hall = Halls.begun(1);
        answers("in a match, which goes on", 1, hall, h -> bit(h.see(0, 0)));
        answers("one more", 1, hall, h -> h.seen(0));
        Halls.play(hall, 1, 0, "yes");
        Halls.parts(hall, "111");
        answers("not twice", 1, hall, h -> h.seen(0));
        answers("as it was read", 0, hall, h -> bit(h.see(2, 0)));
    }

    // ---- promise 18

    @Promise(value = 18, says = "Throws IndexOutOfBoundsException if there is no such player")
    private static void p18Player() {
        range("player", 0, 19, INDEX, () -> players(20), (h, v) -> h.seen(v));
        range("player", 0, 0, INDEX, () -> players(1), (h, v) -> h.seen(v));
        beyond("player", 0, -1, INDEX, teams(1), (h, v) -> h.seen(v));
    }

    @Promise(value = 18, says = "Returns how many.")
    private static void p18HowMany() {
        TossupHall hall = packed();
        answers("none", 0, hall, h -> h.seen(0));
        for (int i = 23; i >= 0; i--) {
            hall.see(0, i);
            answers("so many", 24 - i, hall, h -> h.seen(0));
        }
        hall.see(0, 23);
        answers("all", 24, hall, h -> h.seen(0));
    }

    @Promise(value = 18, says = "Returns how many questions a player has seen.")
    private static void p18OfAPlayer() {
        TossupHall hall = packed();
        hall.see(7, 0);
        answers("of one", 1, hall, h -> h.seen(7));
        answers("of another one", 0, hall, h -> h.seen(6));
    }

    // ---- promise 19

    @Promise(value = 19, says = "Throws IndexOutOfBoundsException if there is no such team or packet")
    private static void p19TeamAndPacket() {
        range("team", 0, 2, INDEX, TeamEdges::packed, (h, v) -> bit(h.canPlay(v, 0)));
        range("packet", 0, 1, INDEX, TeamEdges::packed, (h, v) -> bit(h.canPlay(0, v)));
        beyond("packet of a team without players", 0, 1, INDEX, packed(), (h, v) -> bit(h.canPlay(2, v)));
        beyond("packet, none", 0, -1, INDEX, teams(1), (h, v) -> bit(h.canPlay(0, v)));
        beyond("team, none", 0, -1, INDEX, new TossupHall(), (h, v) -> bit(h.canPlay(v, v)));
    }

    @Promise(value = 19, says = "Returns whether it has players, and none of them has seen a question of it.")
    private static void p19PlayersAndSeen() {
        answers("four players", 1, packed(), h -> bit(h.canPlay(1, 0)));
        answers("no players", 0, packed(), h -> bit(h.canPlay(2, 0)));
        for (int i = 0; i < 4; i++) {
            for (int question : new int[] {0, 23}) {
                TossupHall hall = packed();
                hall.see(4 + i, question);
                answers("one of them has seen one", 0, hall, h -> bit(h.canPlay(1, 0)));
                answers("the other team", 1, hall, h -> bit(h.canPlay(0, 0)));
                answers("the other packet", 1, hall, h -> bit(h.canPlay(1, 1)));
            }
        }
        TossupHall all = packed();
        for (int i = 1; i < 23; i++) {
            all.see(0, i);
        }
        answers("all others seen", 1, all, h -> bit(h.canPlay(0, 0)));
        answers("that of the other packet, too", 0, all, h -> bit(h.canPlay(0, 1)));
    }

    @Promise(value = 19, says = "Returns whether a team can play a packet.")
    private static void p19WhileAMatchGoesOn() {
        TossupHall hall = Halls.begun(2);
        answers("it plays it", 1, hall, h -> bit(h.canPlay(0, 0)));
        hall.read(1);
        answers("a word was read", 1, hall, h -> bit(h.canPlay(0, 0)));
        Halls.die(hall);
        hall.end();
        answers("behind it", 0, hall, h -> bit(h.canPlay(0, 0)));
    }

    @Promise(value = 19, says = "A dead question is dead, and nobody plays what they have seen.")
    private static void p19Terms() {
        TossupHall hall = Halls.begun(2);
        Halls.die(hall);
        hall.end();
        refuses("the dead question once more", UNSUPPORTED, hall, h -> h.match(0, 1, 0));
        answers("it stays in its packet", 0, hall, h -> h.packed(0, 0));
        refuses("no word is put to it", UNSUPPORTED, hall, h -> h.word(0, 0));
    }

    @Promise(value = 19, says = "A player who has seen a question cannot play a packet with it; whoever plays a match has seen "
        + "those of its questions that were read in it, as far as by one word, as it ends.")
    private static void p19SeenAsItEnds() {
        TossupHall none = Halls.begun(3);
        none.end();
        answers("no word was read", 0, none, h -> h.seen(0));
        answers("so that they can play it again", 1, none, h -> h.match(0, 1, 0));

        TossupHall hall = Halls.ready(3);
        int third = Halls.team(hall, 0);
        hall.match(0, 1, 0);
        Halls.play(hall, 1, 0, "yes");
        Halls.parts(hall, "111");
        Halls.play(hall, 1, 2, "yes");
        answers("not before it ends", 0, hall, h -> h.seen(0));
        Halls.parts(hall, "111");
        hall.end();
        for (int i = 0; i < 4; i++) {
            int player = i;
            answers("two of three, one word of each", 2, hall, h -> h.seen(player));
            answers("the first", 0, hall, h -> bit(h.see(player, 0)));
            answers("the second", 0, hall, h -> bit(h.see(player, 1)));
            answers("not the third", 1, hall, h -> bit(h.see(player, 2)));
        }
        answers("of another team", 0, hall, h -> h.seen(4));
        answers("who can play it", 1, hall, h -> bit(h.canPlay(third, 0)));
        hall.player(0, 0);
        answers("who comes later", 0, hall, h -> h.seen(5));
        answers("with those who have seen it", 0, hall, h -> bit(h.canPlay(0, 0)));
    }
}
