import java.util.ArrayList;
import java.util.List;
import java.util.Random;
import java.util.function.Supplier;

/** Runs of 512 calls, the same each time, in which the hall answers as the model does. */
public final class RandomRunsTest {
    private static final int RUNS = 600;
    private static final int CALLS = 512;
    private static final String[] TEXTS = {"a", "b", "abcdef", "abcdeg", "abcdefghijkl", "abcdefghijxx", "bcdefg"};

    private final Random random;
    private final TossupHall hall = new TossupHall();
    private final HallModel model = new HallModel();
    private final List<String> told = new ArrayList<>();
    private final boolean isCareful;
    private boolean isFaulty;

    private RandomRunsTest(long seed) {
        random = new Random(seed);
        isCareful = seed % 8 != 0;
    }

    public static void main(String[] args) {
        long[] reached = new long[4];
        for (int run = 0; run < RUNS; run++) {
            RandomRunsTest test = new RandomRunsTest(run);
            test.play();
            for (HallModel.Match match : test.model.matches) {
                reached[0]++;
                reached[1] += match.log.size();
                reached[2] += match.protests.size();
                reached[3] += match.upheld().size();
            }
        }
        System.out.println(reached[0] + " matches, " + reached[1] + " rulings and parts, " + reached[2]
            + " protests, " + reached[3] + " of them upheld");
        Checks.holds("runs reach enough", reached[0] > RUNS && reached[1] > 4L * RUNS && reached[3] > RUNS / 4);
        Checks.finish("RandomRunsTest");
    }

    private void play() {
        if (isCareful) {
            begin();
        }
        while (told.size() < CALLS && !isFaulty) {
            int kind = random.nextInt(isCareful ? 14 : 3);
            if (kind == 0) {
                change();
            } else if (kind <= 2) {
                observe();
            } else {
                goOn();
            }
        }
    }

    private int pick(int bound) {
        return random.nextInt(bound);
    }

    /** Mostly one of so many, and now and then one beside them. */
    private int some(int count) {
        return pick(25) == 0 ? pick(3) == 0 ? -1 : count + pick(2) : pick(Math.max(count, 1));
    }

    private void call(String what, Supplier<Object> real, Supplier<Object> due) {
        if (isFaulty || told.size() >= CALLS) {
            return;
        }
        String got = outcome(real);
        String wanted = outcome(due);
        told.add(what + " -> " + wanted);
        Checks.holds("a call", true);
        if (!got.equals(wanted)) {
            isFaulty = true;
            Checks.tell("behind " + String.join(", ", told) + " the hall answered " + got);
        }
    }

    private static String outcome(Supplier<Object> call) {
        try {
            return String.valueOf(call.get());
        } catch (RuntimeException e) {
            return e.getClass().getName();
        }
    }

    private void type(String text) {
        for (char letter : text.toCharArray()) {
            call("type " + letter, () -> hall.type(letter), () -> model.type(letter));
        }
    }

    private void line(int question, char kind, String text) {
        type(text);
        call("line " + question + kind, () -> hall.line(question, kind), () -> model.line(question, kind));
    }

    private void begin() {
        int questions = 5 + pick(8);
        int categories = 2 + pick(3);
        for (int i = 0; i < questions; i++) {
            int category = i < categories ? i : pick(categories);
            int theme = pick(5) == 0 ? pick(6) : 10 + i;
            call("question " + category + "," + theme, () -> hall.question(category, theme),
                () -> model.question(category, theme));
            int words = pick(7);
            for (int j = 0; j < words; j++) {
                word(i, pick(3));
            }
            power(i, pick(8));
            line(i, "aapn".charAt(pick(4)), "a");
            line(i, "ap".charAt(pick(2)), "b");
        }
        int teams = 2 + pick(6);
        for (int i = 0; i < teams; i++) {
            team(i);
            for (int j = pick(2); j >= 0; j--) {
                player(i, pick(5));
            }
        }
        for (int i = 0; i < categories; i++) {
            quota(i, 1 + pick(2));
        }
        packet();
        packet();
        quota(pick(categories), 0);
        packet();
    }

    private void word(int question, int word) {
        call("word " + question + "," + word, () -> hall.word(question, word), () -> model.word(question, word));
    }

    private void power(int question, int mark) {
        call("power " + question + "," + mark, () -> hall.power(question, mark), () -> model.power(question, mark));
    }

    private void team(int school) {
        call("team " + school, () -> hall.team(school), () -> model.team(school));
    }

    private void player(int team, int reaction) {
        call("player " + team + "," + reaction, () -> hall.player(team, reaction),
            () -> model.player(team, reaction));
    }

    private void quota(int category, int quota) {
        call("quota " + category + "," + quota, () -> hall.quota(category, quota),
            () -> model.quota(category, quota));
    }

    private void packet() {
        call("packet", () -> hall.packet(), () -> model.packet());
    }

    private void change() {
        int question = some(model.questions.size());
        int player = some(model.players.size());
        switch (pick(16)) {
            case 0:
                int theme = some(100);
                int category = some(6);
                call("question " + category + "," + theme, () -> hall.question(category, theme),
                    () -> model.question(category, theme));
                break;
            case 1:
                word(question, pick(20) == 0 ? some(100) : pick(3));
                break;
            case 2:
                power(question, pick(4) == 0 ? some(41) : pick(6));
                break;
            case 3:
                line(question, "apnx".charAt(pick(4)), TEXTS[pick(TEXTS.length)]);
                break;
            case 4:
                char letter = "abz`{A".charAt(pick(6));
                call("type " + letter, () -> hall.type(letter), () -> model.type(letter));
                break;
            case 5:
                call("wipe", () -> hall.wipe(), () -> model.wipe());
                break;
            case 6:
                char kind = "apnx".charAt(pick(4));
                call("line " + question + kind, () -> hall.line(question, kind), () -> model.line(question, kind));
                break;
            case 7:
                quota(some(6), pick(9) == 0 ? some(11) : pick(3));
                break;
            case 8:
                packet();
                break;
            case 9:
                team(some(100));
                break;
            case 10:
                player(some(model.pools.size()), pick(9) == 0 ? some(100000) : pick(4));
                break;
            case 11:
                int field = some(6);
                int knowledge = some(10);
                call("know " + player + "," + field + "," + knowledge, () -> hall.know(player, field, knowledge),
                    () -> model.know(player, field, knowledge));
                break;
            case 12:
                call("see " + player + "," + question, () -> hall.see(player, question),
                    () -> model.see(player, question));
                break;
            case 13:
                int pools = 1 + some(4);
                call("pools " + pools, () -> hall.pools(pools), () -> model.pools(pools));
                break;
            default:
                any();
                break;
        }
    }

    /** A step of the match, whether it fits or not. */
    private void any() {
        switch (pick(8)) {
            case 0:
                read(some(41));
                break;
            case 1:
                buzz(some(model.players.size()), pick(4) == 0 ? some(10000000) : pick(4));
                break;
            case 2:
                call("lock", () -> hall.lock(), () -> model.lock());
                break;
            case 3:
                call("answer", () -> hall.answer(), () -> model.answer());
                break;
            case 4:
                call("dead", () -> hall.dead(), () -> model.dead());
                break;
            case 5:
                part(random.nextBoolean());
                break;
            case 6:
                call("end", () -> hall.end(), () -> model.end());
                break;
            default:
                match();
                break;
        }
    }

    private void read(int words) {
        call("read " + words, () -> hall.read(words), () -> model.read(words));
    }

    private void buzz(int player, int time) {
        call("buzz " + player + "," + time, () -> hall.buzz(player, time), () -> model.buzz(player, time));
    }

    private void part(boolean isRight) {
        call("part " + isRight, () -> hall.part(isRight), () -> model.part(isRight));
    }

    private void match() {
        match(some(model.pools.size()), some(model.pools.size()), some(model.packets.size()));
    }

    private void match(int team, int other, int packet) {
        call("match " + team + "," + other + "," + packet, () -> hall.match(team, other, packet),
            () -> model.match(team, other, packet));
    }

    private void protest() {
        int ruling = model.matches.isEmpty() ? pick(2) : some(model.matches.get(model.matches.size() - 1).rulings().size());
        call("protest " + ruling, () -> hall.protest(ruling), () -> model.protest(ruling));
    }

    private void resolve() {
        int match = some(model.matches.size());
        boolean isThere = match >= 0 && match < model.matches.size();
        List<Integer> protests = isThere ? model.matches.get(match).protests : new ArrayList<>();
        int ruling = protests.isEmpty() || pick(8) == 0 ? some(3) : protests.get(pick(protests.size()));
        boolean isUpheld = pick(3) > 0;
        call("resolve " + match + "," + ruling + "," + isUpheld, () -> hall.resolve(match, ruling, isUpheld),
            () -> model.resolve(match, ruling, isUpheld));
    }

    /** Mostly a player of the match. */
    private int buzzer() {
        HallModel.Match match = model.matches.get(model.matches.size() - 1);
        int player = some(model.players.size());
        for (int i = 0; i < 8 && player >= 0 && player < model.players.size(); i++) {
            int side = match.side(model.players.get(player).team);
            if (side >= 0 && !model.blocked.contains(side)) {
                return player;
            }
            player = pick(model.players.size());
        }
        return player;
    }

    /** A step that fits to what goes on. */
    private void goOn() {
        switch (model.phase()) {
            case '-':
                between();
                break;
            case 't':
                if (pick(12) == 0 && model.words == 0) {
                    call("end", () -> hall.end(), () -> model.end());
                } else if (pick(4) == 0 && model.words > 0) {
                    call("dead", () -> hall.dead(), () -> model.dead());
                } else if (pick(2) == 0) {
                    read(1 + pick(3));
                } else {
                    buzz(buzzer(), pick(4));
                }
                break;
            case 'b':
                if (pick(3) == 0) {
                    buzz(buzzer(), pick(4));
                } else {
                    call("lock", () -> hall.lock(), () -> model.lock());
                }
                break;
            case 'a':
                if (model.text.isEmpty()) {
                    type(pick(4) == 0 ? TEXTS[pick(TEXTS.length)] : TEXTS[pick(2)]);
                }
                call("answer", () -> hall.answer(), () -> model.answer());
                break;
            default:
                part(pick(3) == 0);
                break;
        }
        if (pick(6) == 0) {
            protest();
        }
    }

    private void between() {
        switch (pick(5)) {
            case 0:
                resolve();
                break;
            case 1:
                if (pick(3) == 0) {
                    change();
                } else {
                    protest();
                }
                break;
            default:
                if (pick(3) == 0) {
                    match();
                } else {
                    fittingMatch();
                }
                break;
        }
    }

    private void fittingMatch() {
        for (int i = 0; i < 40 && !model.packets.isEmpty(); i++) {
            int team = pick(model.pools.size());
            int other = pick(model.pools.size());
            int packet = pick(model.packets.size());
            if (team != other && model.canPlay(team, packet) && model.canPlay(other, packet)) {
                match(team, other, packet);
                return;
            }
        }
    }

    private void observe() {
        switch (pick(4)) {
            case 0:
                observeMatches();
                break;
            case 1:
                observePlayers();
                break;
            case 2:
                observeStandings();
                break;
            default:
                observeQuestions();
                break;
        }
    }

    private void observeQuestions() {
        int question = some(model.questions.size());
        int other = some(model.questions.size());
        int packet = some(model.packets.size());
        int place = some(4);
        switch (pick(5)) {
            case 0:
                call("repeats " + question + "," + other, () -> hall.repeats(question, other),
                    () -> model.repeats(question, other));
                break;
            case 1:
                call("questions " + packet, () -> hall.questions(packet), () -> model.questions(packet));
                break;
            case 2:
                call("packed " + packet + "," + place, () -> hall.packed(packet, place),
                    () -> model.packed(packet, place));
                break;
            case 3:
                if (model.text.isEmpty() && pick(4) > 0) {
                    type(TEXTS[pick(TEXTS.length)]);
                }
                call("judge " + question, () -> hall.judge(question), () -> model.judge(question));
                break;
            default:
                int team = some(model.pools.size());
                call("canPlay " + team + "," + packet, () -> hall.canPlay(team, packet),
                    () -> model.canPlay(team, packet));
                break;
        }
    }

    private void observeMatches() {
        int match = some(model.matches.size());
        boolean isOther = random.nextBoolean();
        switch (pick(7)) {
            case 0:
                call("score " + match + "," + isOther, () -> hall.score(match, isOther),
                    () -> model.score(match, isOther));
                break;
            case 1:
                call("rulings " + match, () -> hall.rulings(match), () -> model.rulings(match));
                break;
            case 2:
                int ruling = some(4);
                char what = "pwrqx".charAt(pick(5));
                call("ruling " + match + "," + ruling + what, () -> hall.ruling(match, ruling, what),
                    () -> model.ruling(match, ruling, what));
                break;
            case 3:
                call("matters " + match, () -> hall.matters(match), () -> model.matters(match));
                break;
            case 4:
                call("phase", () -> hall.phase(), () -> model.phase());
                break;
            default:
                int rulings = pick(5) == 0 ? random.nextInt() : pick(16);
                call("scoreIf " + match + "," + rulings + "," + isOther, () -> hall.scoreIf(match, rulings, isOther),
                    () -> model.scoreIf(match, rulings, isOther));
                break;
        }
    }

    private void observePlayers() {
        int player = some(model.players.size());
        int question = some(model.questions.size());
        switch (pick(6)) {
            case 0:
                call("seen " + player, () -> hall.seen(player), () -> model.seen(player));
                break;
            case 1:
                call("isSuspect " + player, () -> hall.isSuspect(player), () -> model.isSuspect(player));
                break;
            case 2:
                call("best " + player + "," + question, () -> hall.best(player, question),
                    () -> model.best(player, question));
                break;
            default:
                char what = "ptnwehx".charAt(pick(7));
                call("count " + player + what, () -> hall.count(player, what), () -> model.count(player, what));
                break;
        }
    }

    private void observeStandings() {
        int team = some(model.pools.size());
        switch (pick(7)) {
            case 0:
                call("poolOf " + team, () -> hall.poolOf(team), () -> model.poolOf(team));
                break;
            case 1:
                boolean isLower = random.nextBoolean();
                call("rating " + team + "," + isLower, () -> hall.rating(team, isLower),
                    () -> model.rating(team, isLower));
                break;
            case 2:
                call("share", () -> hall.share(), () -> model.share());
                break;
            case 3:
                call("meanWords", () -> hall.meanWords(), () -> model.meanWords());
                break;
            case 4:
                call("isSound", () -> hall.isSound(), () -> model.isSound());
                break;
            default:
                int pool = pick(2) == 0 ? 0 : some(4);
                int rank = some(model.pools.size());
                call("ranked " + pool + "," + rank, () -> hall.ranked(pool, rank), () -> model.ranked(pool, rank));
                break;
        }
    }
}
