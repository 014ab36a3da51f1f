import java.lang.reflect.Array;
import java.lang.reflect.Field;
import java.lang.reflect.Modifier;
import java.util.Set;
import java.util.function.IntSupplier;

/** Tells a hall twice: by the answers of all calls that only ask, and by the fields that hold its state. */
final class Story {
    // What these hold is made anew by each call that uses it.
    private static final Set<String> SCRATCH = Set.of("setter", "table", "ratings");
    private static final String NO_MORE = "none ";

    private final TossupHall hall;
    private final StringBuilder told = new StringBuilder();

    private Story(TossupHall hall) {
        this.hall = hall;
    }

    static String of(TossupHall hall) {
        Story story = new Story(hall);
        story.questions();
        story.packets();
        story.players();
        story.matches();
        story.standings();
        return story.told.toString();
    }

    private interface Asked {
        Object ask();
    }

    /** Whether the call answered; if it threw, the exception is told in place of the answer. */
    private boolean ask(String what, Asked asked) {
        told.append(what).append(' ');
        try {
            told.append(asked.ask()).append('\n');
            return true;
        } catch (RuntimeException e) {
            told.append(e.getClass().getSimpleName()).append('\n');
            return false;
        }
    }

    private int count(IntSupplier one, int number) {
        try {
            one.getAsInt();
            return number + 1;
        } catch (IndexOutOfBoundsException e) {
            return number;
        }
    }

    private int countQuestions() {
        int found = 0;
        for (int i = 0; i < 30 && found == i; i++) {
            int number = i;
            found = count(() -> hall.repeats(number, number), i);
        }
        return found;
    }

    private int countPlayers() {
        int found = 0;
        for (int i = 0; i < 30 && found == i; i++) {
            int number = i;
            found = count(() -> hall.seen(number), i);
        }
        return found;
    }

    private int countTeams() {
        int found = 0;
        for (int i = 0; i < 30 && found == i; i++) {
            int number = i;
            found = count(() -> hall.poolOf(number), i);
        }
        return found;
    }

    private void questions() {
        int count = countQuestions();
        told.append(count).append(" questions\n");
        for (int i = 0; i < count; i++) {
            for (int j = i; j < count; j++) {
                int one = i;
                int other = j;
                ask("repeats " + i + " " + j, () -> hall.repeats(one, other));
            }
        }
    }

    private void packets() {
        for (int i = 0; i < 6; i++) {
            int packet = i;
            if (!ask("questions " + i, () -> hall.questions(packet))) {
                break;
            }
            for (int j = 0; j < 11; j++) {
                int place = j;
                if (!ask("packed " + i + " " + j, () -> hall.packed(packet, place))) {
                    break;
                }
            }
            for (int j = 0; j < countTeams(); j++) {
                int team = j;
                ask("canPlay " + j + " " + i, () -> hall.canPlay(team, packet));
            }
        }
    }

    private void players() {
        int questions = countQuestions();
        for (int i = 0; i < countPlayers(); i++) {
            int player = i;
            ask("seen " + i, () -> hall.seen(player));
            ask("isSuspect " + i, () -> hall.isSuspect(player));
            for (char letter : "ptnweh".toCharArray()) {
                ask("count " + i + letter, () -> hall.count(player, letter));
            }
            for (int j = 0; j < questions; j++) {
                int question = j;
                ask("best " + i + " " + j, () -> hall.best(player, question));
            }
        }
    }

    private void matches() {
        ask("phase", () -> hall.phase());
        for (int i = 0; i < 42; i++) {
            int match = i;
            if (!ask("score " + i, () -> hall.score(match, false))) {
                break;
            }
            ask("score of the other " + i, () -> hall.score(match, true));
            ask("matters " + i, () -> hall.matters(match));
            for (int j = 0; j < 32; j++) {
                int ruling = j / 2;
                boolean isOther = j % 2 == 1;
                ask("scoreIf " + i + " " + j, () -> hall.scoreIf(match, ruling, isOther));
            }
            rulings(i);
        }
    }

    private void rulings(int match) {
        ask("rulings " + match, () -> hall.rulings(match));
        for (int i = 0; i < 22; i++) {
            int ruling = i;
            for (char letter : "pwrq".toCharArray()) {
                if (!ask("ruling " + match + " " + i + letter, () -> hall.ruling(match, ruling, letter))) {
                    return;
                }
            }
        }
    }

    private void standings() {
        for (int i = 0; i < 4; i++) {
            int pool = i;
            for (int j = 0; j < 10; j++) {
                int rank = j;
                if (!ask("ranked " + i + " " + j, () -> hall.ranked(pool, rank))) {
                    break;
                }
            }
        }
        for (int i = 0; i < countTeams(); i++) {
            int team = i;
            ask("poolOf " + i, () -> hall.poolOf(team));
            ask("rating " + i, () -> hall.rating(team, false));
            ask("lower " + i, () -> hall.rating(team, true));
        }
        ask("share", () -> hall.share());
        ask("meanWords", () -> hall.meanWords());
        ask("isSound", () -> hall.isSound());
    }

    /** All that the hall holds, also what no call that only asks can tell: the text, quotas, buzzes and words. */
    static String fields(TossupHall hall) {
        StringBuilder told = new StringBuilder();
        try {
            tell(told, hall);
        } catch (IllegalAccessException e) {
            throw new IllegalStateException(e);
        }
        return told.toString();
    }

    private static void tell(StringBuilder told, Object thing) throws IllegalAccessException {
        if (thing == null) {
            told.append(NO_MORE);
        } else if (thing.getClass().isArray()) {
            told.append('[');
            for (int i = 0; i < Array.getLength(thing); i++) {
                tell(told, Array.get(thing, i));
            }
            told.append(']');
        } else if (thing instanceof Number || thing instanceof Boolean || thing instanceof Character) {
            told.append(thing instanceof Character ? String.valueOf((int) (char) thing) : thing.toString()).append(' ');
        } else {
            tellFields(told, thing);
        }
    }

    private static void tellFields(StringBuilder told, Object thing) throws IllegalAccessException {
        told.append('{');
        for (Field field : thing.getClass().getDeclaredFields()) {
            boolean isScratch = thing instanceof TossupHall && SCRATCH.contains(field.getName());
            if (!Modifier.isStatic(field.getModifiers()) && !isScratch) {
                field.setAccessible(true);
                told.append(field.getName()).append(' ');
                tell(told, field.get(thing));
            }
        }
        told.append('}');
    }
}
