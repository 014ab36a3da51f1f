/** Promises 10 to 13: quotas and packets. */
public final class PacketsTest {
    public static void main(String[] args) {
        quota();
        packetWrongInputs();
        packetOrder();
        packetNeighbours();
        packetThemes();
        packetRepeats();
        packetOfOthers();
        packetLooksAhead();
        hardPackets();
        packedAndQuestions();
        Checks.finish("PacketsTest");
    }

    private static void quota() {
        TossupHall hall = new TossupHall();
        Checks.fails("promise 10: category -1", Halls.ARGUMENT, () -> hall.quota(-1, 0));
        Checks.fails("promise 10: category 6", Halls.ARGUMENT, () -> hall.quota(6, 0));
        Checks.fails("promise 10: quota -1", Halls.ARGUMENT, () -> hall.quota(0, -1));
        Checks.fails("promise 10: quota 11", Halls.ARGUMENT, () -> hall.quota(0, 11));
        Checks.same("promise 10: 10", hall.quota(0, 10), 10);
        Checks.fails("promise 10: a sum of 11", Halls.ARGUMENT, () -> hall.quota(5, 1));
        Checks.same("promise 10: the same again", hall.quota(0, 10), 10);
        Checks.same("promise 10: less", hall.quota(0, 4), 4);
        Checks.same("promise 10: another", hall.quota(5, 6), 10);
        Checks.fails("promise 10: one too many", Halls.ARGUMENT, () -> hall.quota(0, 5));
        Checks.same("promise 10: nothing was changed", hall.quota(3, 0), 10);
        Checks.same("promise 10: none", hall.quota(0, 0), 6);
        Checks.fails("promise 10: much too many", Halls.ARGUMENT, () -> hall.quota(0, Integer.MAX_VALUE));
    }

    private static void packetWrongInputs() {
        TossupHall hall = new TossupHall();
        Checks.fails("promise 11: quotas of 0", Halls.UNSUPPORTED, hall::packet);
        hall.quota(0, 1);
        Checks.fails("promise 11: no questions", Halls.NO_ELEMENT, hall::packet);
        for (int i = 0; i < 5; i++) {
            hall.question(0, i);
        }
        for (int i = 0; i < 4; i++) {
            Checks.same("promise 11: number", hall.packet(), i);
            Checks.same("promise 11: the first that is free", hall.packed(i, 0), i);
        }
        Checks.fails("promise 11: the 5th", Halls.STATE, hall::packet);
        Checks.same("promise 11: the question is free", hall.word(4, 0), 1);
        hall.quota(0, 2);
        Checks.fails("promise 11: the 5th, of which there is no order", Halls.NO_ELEMENT, hall::packet);
        hall.quota(0, 0);
        Checks.fails("promise 11: the 5th, with quotas of 0", Halls.UNSUPPORTED, hall::packet);
        Checks.fails("promise 11: none was added", Halls.INDEX, () -> hall.questions(4));
    }

    private static void isSet(String what, TossupHall hall, int... due) {
        int packet = hall.packet();
        Checks.same(what + ": how many", hall.questions(packet), due.length);
        for (int i = 0; i < due.length; i++) {
            Checks.same(what + ": place " + i, hall.packed(packet, i), due[i]);
        }
    }

    private static void packetOrder() {
        TossupHall hall = new TossupHall();
        int[] categories = {3, 1, 1, 3, 2, 1};
        for (int i = 0; i < categories.length; i++) {
            hall.question(categories[i], i);
        }
        hall.quota(1, 2);
        hall.quota(3, 1);
        hall.quota(2, 1);
        isSet("promise 11: the first order", hall, 0, 1, 4, 2);
        hall.quota(2, 0);
        hall.quota(1, 1);
        isSet("promise 11: the rest", hall, 3, 5);
    }

    private static void packetNeighbours() {
        TossupHall hall = new TossupHall();
        int[] categories = {1, 0, 0, 0, 2, 1};
        for (int i = 0; i < categories.length; i++) {
            hall.question(categories[i], i);
        }
        hall.quota(0, 2);
        Checks.fails("promise 11: two alike alone", Halls.NO_ELEMENT, hall::packet);
        hall.quota(0, 3);
        hall.quota(1, 1);
        Checks.fails("promise 11: three and one", Halls.NO_ELEMENT, hall::packet);
        hall.quota(2, 1);
        isSet("promise 11: the three must begin", hall, 1, 0, 2, 4, 3);
    }

    private static void packetThemes() {
        TossupHall hall = new TossupHall();
        hall.question(0, 7);
        hall.question(1, 7);
        hall.question(1, 8);
        hall.question(0, 8);
        hall.question(0, 9);
        hall.quota(0, 1);
        hall.quota(1, 1);
        isSet("promise 11: no theme twice", hall, 0, 2);
        isSet("promise 11: themes of other packets do not count", hall, 1, 3);
    }

    private static void packetRepeats() {
        TossupHall hall = new TossupHall();
        hall.question(0, 0);
        hall.question(1, 1);
        hall.question(1, 2);
        hall.question(0, 3);
        Halls.words(hall, 0, 1, 2, 3, 4, 5);
        Halls.words(hall, 1, 9, 2, 3, 4, 5);
        Halls.words(hall, 2, 1, 2, 3, 9, 1, 2, 3);
        Checks.same("promise 11: two shingles", hall.repeats(0, 1), 2);
        Checks.same("promise 11: one shingle", hall.repeats(0, 2), 1);
        hall.quota(0, 1);
        hall.quota(1, 1);
        isSet("promise 11: one shingle is no bar", hall, 0, 2);
        isSet("promise 11: repeats of other packets do not count", hall, 1, 3);
    }

    private static void packetOfOthers() {
        TossupHall hall = new TossupHall();
        hall.question(0, 0);
        hall.question(1, 1);
        hall.quota(0, 1);
        isSet("promise 11: a question alone", hall, 0);
        Checks.fails("promise 11: it is in a packet", Halls.NO_ELEMENT, hall::packet);
        hall.quota(1, 1);
        Checks.fails("promise 11: one is in a packet", Halls.NO_ELEMENT, hall::packet);
        hall.quota(0, 0);
        isSet("promise 11: the other one", hall, 1);
    }

    private static void packetLooksAhead() {
        TossupHall hall = new TossupHall();
        // Question 0 clashes with both questions of category 1, so that it can only be left out.
        hall.question(0, 5);
        hall.question(1, 5);
        hall.question(1, 6);
        Halls.words(hall, 0, 1, 2, 3, 4);
        Halls.words(hall, 2, 1, 2, 3, 4);
        hall.question(0, 7);
        hall.quota(0, 1);
        hall.quota(1, 1);
        isSet("promise 11: the first one does not fit", hall, 1, 3);
    }

    /** Many clashes and few choices: what takes ages if each order is tried. */
    private static void hardPackets() {
        TossupHall hall = new TossupHall();
        for (int i = 0; i < 24; i++) {
            hall.question(i / 4, i % 4 + 10 * (i / 8));
        }
        for (int i = 0; i < 6; i++) {
            hall.quota(i, i < 4 ? 2 : 1);
        }
        isSet("promise 11: 24 questions", hall, 0, 5, 2, 7, 8, 13, 10, 15, 16, 21);
        TossupHall other = new TossupHall();
        for (int i = 0; i < 24; i++) {
            other.question(i % 2, i % 9);
        }
        other.quota(0, 5);
        other.quota(1, 5);
        Checks.fails("promise 11: 9 themes for 10 places", Halls.NO_ELEMENT, other::packet);
    }

    private static void packedAndQuestions() {
        TossupHall hall = Halls.ready(3);
        hall.question(4, 50);
        hall.quota(0, 0);
        hall.quota(1, 0);
        hall.quota(4, 1);
        hall.packet();
        Checks.fails("promise 12: packet -1", Halls.INDEX, () -> hall.packed(-1, 0));
        Checks.fails("promise 12: packet 2", Halls.INDEX, () -> hall.packed(2, 0));
        Checks.fails("promise 12: place -1", Halls.INDEX, () -> hall.packed(0, -1));
        Checks.fails("promise 12: place 3", Halls.INDEX, () -> hall.packed(0, 3));
        Checks.fails("promise 12: place 1 of one", Halls.INDEX, () -> hall.packed(1, 1));
        Checks.same("promise 12: place 0", hall.packed(0, 0), 0);
        Checks.same("promise 12: place 2", hall.packed(0, 2), 2);
        Checks.same("promise 12: packet 1", hall.packed(1, 0), 3);
        Checks.fails("promise 13: packet -1", Halls.INDEX, () -> hall.questions(-1));
        Checks.fails("promise 13: packet 2", Halls.INDEX, () -> hall.questions(2));
        Checks.same("promise 13: packet 0", hall.questions(0), 3);
        Checks.same("promise 13: packet 1", hall.questions(1), 1);
    }
}
