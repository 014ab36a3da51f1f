import java.util.function.Supplier;

/** What the tests of single sentences have in common; each check is told with its promise and its sentence. */
abstract class Edges {
    static final Class<IndexOutOfBoundsException> INDEX = Halls.INDEX;
    static final Class<IllegalArgumentException> ARGUMENT = Halls.ARGUMENT;
    static final Class<IllegalStateException> STATE = Halls.STATE;
    static final Class<UnsupportedOperationException> UNSUPPORTED = Halls.UNSUPPORTED;
    static final Class<java.util.NoSuchElementException> NO_ELEMENT = Halls.NO_ELEMENT;
    static final Class<ArithmeticException> ARITHMETIC = Halls.ARITHMETIC;
    static final String ORDER = "If several exceptions apply, the one that is documented first is thrown.";
    static final String NO_CHANGE = "A method that throws an exception changes nothing.";

    private static String about = "";

    interface Call {
        long on(TossupHall hall);
    }

    interface CallWith {
        long on(TossupHall hall, int value);
    }

    static void begin(Promise promise) {
        about = "promise " + promise.value() + ", \"" + promise.says() + "\": ";
    }

    static String about() {
        return about;
    }

    static long bit(boolean is) {
        return is ? 1 : 0;
    }

    static void answers(String what, long due, TossupHall hall, Call call) {
        try {
            Checks.same(about + what, call.on(hall), due);
        } catch (RuntimeException e) {
            Checks.tell(about + what + " threw " + e.getClass().getName() + ", due is " + due);
        }
    }

    static void scores(String what, int first, int other, TossupHall hall) {
        answers(what + ", the first team", first, hall, h -> h.score(0, false));
        answers(what + ", the other team", other, hall, h -> h.score(0, true));
    }

    /** The hall behind an answer of a player to the tossup, of which so many words more were read. */
    static TossupHall played(TossupHall hall, int words, int player, String text) {
        Halls.play(hall, words, player, text);
        return hall;
    }

    /** The call throws just this exception, and nothing is different behind it. */
    static void refuses(String what, Class<? extends RuntimeException> due, TossupHall hall, Call call) {
        String fields = Story.fields(hall);
        String story = Story.of(hall);
        Checks.fails(about + what, due, () -> call.on(hall));
        Checks.holds(about + what + ": \"" + NO_CHANGE + "\" (fields)", fields.equals(Story.fields(hall)));
        Checks.holds(about + what + ": \"" + NO_CHANGE + "\" (answers)", story.equals(Story.of(hall)));
    }

    /** The least and the greatest number are allowed; the next ones beyond them, and those at the ends, are not. */
    static void range(String what, int least, int greatest, Class<? extends RuntimeException> due,
            Supplier<TossupHall> begin, CallWith call) {
        for (int value : new int[] {least, greatest}) {
            TossupHall hall = begin.get();
            try {
                call.on(hall, value);
                Checks.holds(about + what + " " + value, true);
            } catch (RuntimeException e) {
                Checks.tell(about + what + " " + value + " threw " + e.getClass().getName() + ", but is allowed");
            }
        }
        beyond(what, least, greatest, due, begin.get(), call);
    }

    /** Only what is beyond the range, which may be empty: then the greatest is one less than the least. */
    static void beyond(String what, int least, int greatest, Class<? extends RuntimeException> due, TossupHall hall,
            CallWith call) {
        for (int value : new int[] {least - 1, greatest + 1, Integer.MIN_VALUE, Integer.MAX_VALUE}) {
            refuses(what + " " + value, due, hall, h -> call.on(h, value));
        }
    }

    /** Only these letters are allowed, of all that there are. */
    static void letters(String what, String allowed, Class<? extends RuntimeException> due, Supplier<TossupHall> begin,
            CallWith call) {
        for (char letter : allowed.toCharArray()) {
            TossupHall hall = begin.get();
            try {
                call.on(hall, letter);
                Checks.holds(about + what + " '" + letter + "'", true);
            } catch (RuntimeException e) {
                Checks.tell(about + what + " '" + letter + "' threw " + e.getClass().getName() + ", but is allowed");
            }
        }
        TossupHall hall = begin.get();
        for (int letter = 0; letter <= Character.MAX_VALUE; letter += letter < 300 ? 1 : letter < 65000 ? 1009 : 67) {
            int wrong = letter;
            if (allowed.indexOf(letter) < 0) {
                refuses(what + " of number " + letter, due, hall, h -> call.on(h, wrong));
            }
        }
        refuses(what + " of number 65535", due, hall, h -> call.on(h, Character.MAX_VALUE));
    }
}
