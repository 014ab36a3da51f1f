import java.util.function.Supplier;

/** Promises 10 to 13, sentence by sentence: quotas and packets. */
final class PacketEdges extends Edges {
    private PacketEdges() {
    }

    /** Questions of these categories, each of its own theme and without words. */
    private static TossupHall of(int... categories) {
        TossupHall hall = new TossupHall();
        for (int i = 0; i < categories.length; i++) {
            hall.question(categories[i], i);
        }
        return hall;
    }

    private static TossupHall quotas(TossupHall hall, int... quotas) {
        for (int i = 0; i < quotas.length; i++) {
            hall.quota(i, quotas[i]);
        }
        return hall;
    }

    /** So many packets of one question each, with questions left. */
    private static TossupHall packets(int packets) {
        TossupHall hall = quotas(of(0, 0, 0, 0, 0, 0), 1);
        for (int i = 0; i < packets; i++) {
            hall.packet();
        }
        return hall;
    }

    private static TossupHall ten() {
        return quotas(of(0, 1, 0, 1, 0, 1, 0, 1, 0, 1), 5, 5);
    }

    private static void isSet(TossupHall hall, int... due) {
        long before = 0;
        while (before < 4 && isPacket(hall, (int) before)) {
            before++;
        }
        answers("its number", before, hall, TossupHall::packet);
        int packet = (int) before;
        answers("how many", due.length, hall, h -> h.questions(packet));
        for (int i = 0; i < due.length; i++) {
            int place = i;
            answers("place " + i, due[i], hall, h -> h.packed(packet, place));
        }
    }

    private static boolean isPacket(TossupHall hall, int packet) {
        try {
            return hall.questions(packet) > 0;
        } catch (IndexOutOfBoundsException e) {
            return false;
        }
    }

    // ---- promise 10

    @Promise(value = 10, says = "Throws IllegalArgumentException if there is no such category, the quota is out of range, or the sum would be more than 10")
    private static void p10Category() {
        range("category", 0, 5, ARGUMENT, TossupHall::new, (h, v) -> h.quota(v, 1));
        beyond("category, quota 0", 0, 5, ARGUMENT, quotas(new TossupHall(), 1, 2, 3), (h, v) -> h.quota(v, 0));
    }

    @Promise(value = 10, says = "quota: the quota, 0 to 10")
    private static void p10Quota() {
        range("quota", 0, 10, ARGUMENT, TossupHall::new, (h, v) -> h.quota(0, v));
        range("quota", 0, 10, ARGUMENT, TossupHall::new, (h, v) -> h.quota(5, v));
        beyond("quota, one is set", 0, 10, ARGUMENT, quotas(new TossupHall(), 10), (h, v) -> h.quota(0, v));
    }

    @Promise(value = 10, says = "or the sum would be more than 10")
    private static void p10Sum() {
        Supplier<TossupHall> nine = () -> quotas(new TossupHall(), 2, 2, 2, 2, 1);
        answers("10", 10, nine.get(), h -> h.quota(5, 1));
        refuses("11", ARGUMENT, nine.get(), h -> h.quota(5, 2));
        answers("10, in place of another", 10, nine.get(), h -> h.quota(0, 3));
        refuses("11, in place of another", ARGUMENT, nine.get(), h -> h.quota(0, 4));
        answers("10 in place of 10", 10, quotas(new TossupHall(), 0, 10), h -> h.quota(1, 10));
        refuses("10 and 10", ARGUMENT, quotas(new TossupHall(), 0, 10), h -> h.quota(0, 10));
        refuses("10 and 1", ARGUMENT, quotas(new TossupHall(), 0, 10), h -> h.quota(5, 1));
        answers("10 and 0", 10, quotas(new TossupHall(), 0, 10), h -> h.quota(5, 0));
    }

    @Promise(value = 10, says = "Returns the sum of all quotas.")
    private static void p10Returns() {
        TossupHall hall = new TossupHall();
        int[] sums = {1, 3, 6, 10, 10, 10};
        for (int i = 0; i < 6; i++) {
            int category = i;
            answers("the sum", sums[i], hall, h -> h.quota(category, category < 4 ? category + 1 : 0));
        }
        for (int i = 0; i < 6; i++) {
            int category = i;
            answers("less", i < 4 ? 10 - sums[i] : 0, hall, h -> h.quota(category, 0));
        }
    }

    @Promise(value = 10, says = "Sets the quota of a category.")
    private static void p10Sets() {
        TossupHall hall = of(0, 1);
        quotas(hall, 1);
        refuses("more than 10, so that 1 is left", ARGUMENT, hall, h -> h.quota(0, 11));
        isSet(hall, 0);
        quotas(hall, 0, 1);
        isSet(hall, 1);
    }

    @Promise(value = 10, says = "Of each category some quota of questions, 0 at first, 10 together at most, is in a packet.")
    private static void p10Terms() {
        for (int i = 0; i < 6; i++) {
            int category = i;
            answers("0 at first", 0, new TossupHall(), h -> h.quota(category, 0));
            answers("10 of one", 10, new TossupHall(), h -> h.quota(category, 10));
        }
        isSet(ten(), 0, 1, 2, 3, 4, 5, 6, 7, 8, 9);
    }

    // ---- promise 11

    @Promise(value = 11, says = "Throws UnsupportedOperationException if the quotas sum to 0")
    private static void p11NoQuotas() {
        refuses("at first", UNSUPPORTED, of(0, 1), TossupHall::packet);
        refuses("set to 0 again", UNSUPPORTED, quotas(quotas(of(0, 1), 1, 1), 0, 0), TossupHall::packet);
        answers("one", 0, quotas(of(0, 1), 0, 1), TossupHall::packet);
        answers("of the last category alone", 0, quotas(of(5), 0, 0, 0, 0, 0, 1), TossupHall::packet);
    }

    @Promise(value = 11, says = "Throws NoSuchElementException if there is no such order")
    private static void p11NoOrder() {
        refuses("no questions", NO_ELEMENT, quotas(new TossupHall(), 1), TossupHall::packet);
        refuses("one too few", NO_ELEMENT, quotas(of(0, 1, 2), 2, 1), TossupHall::packet);
        refuses("of another category", NO_ELEMENT, quotas(of(1, 1, 2), 1), TossupHall::packet);
        refuses("10 of one category", NO_ELEMENT, quotas(of(0, 0, 0, 0, 0, 0, 0, 0, 0, 0), 10), TossupHall::packet);
        TossupHall used = packets(3);
        quotas(used, 4);
        refuses("too few are left", NO_ELEMENT, used, TossupHall::packet);
    }

    @Promise(value = 11, says = "Throws IllegalStateException if there are 4")
    private static void p11Full() {
        answers("the 4th", 3, packets(3), TossupHall::packet);
        refuses("the 5th", STATE, packets(4), TossupHall::packet);
        refuses("packet 4", INDEX, packets(4), h -> h.questions(4));
    }

    @Promise(value = 11, says = ORDER)
    private static void p11Order() {
        TossupHall none = packets(4);
        none.quota(0, 0);
        refuses("quotas of 0, 4 packets", UNSUPPORTED, none, TossupHall::packet);
        TossupHall two = packets(4);
        two.quota(0, 2);
        refuses("no such order, 4 packets", NO_ELEMENT, two, TossupHall::packet);
        refuses("quotas of 0, no questions", UNSUPPORTED, new TossupHall(), TossupHall::packet);
    }

    @Promise(value = 11, says = "Returns its number.")
    private static void p11Number() {
        TossupHall hall = packets(0);
        for (int i = 0; i < 4; i++) {
            answers("of a packet", i, hall, TossupHall::packet);
        }
    }

    @Promise(value = 11, says = "Adds a packet, set by the quotas.")
    private static void p11Quotas() {
        isSet(quotas(of(5), 0, 0, 0, 0, 0, 1), 0);
        isSet(quotas(of(0, 1, 2, 3, 4, 5, 0, 1, 2, 3), 2, 2, 2, 2, 1, 1), 0, 1, 2, 3, 4, 5, 6, 7, 8, 9);
        isSet(quotas(of(0, 1, 2, 3, 4, 5), 1, 0, 1, 0, 0, 1), 0, 2, 5);
        TossupHall later = packets(1);
        later.quota(0, 0);
        answers("a packet that is set stays", 1, later, h -> h.questions(0));
    }

    @Promise(value = 11, says = "At most 4 packets have numbers from 0 on.")
    private static void p11Terms() {
        TossupHall hall = packets(4);
        for (int i = 0; i < 4; i++) {
            int packet = i;
            answers("packet " + i, i, hall, h -> h.packed(packet, 0));
        }
        refuses("one more", STATE, hall, TossupHall::packet);
        answers("the question for it can still change", 1, hall, h -> h.word(4, 0));
    }

    @Promise(value = 11, says = "no two have the same theme")
    private static void p11Themes() {
        TossupHall hall = new TossupHall();
        hall.question(0, 99);
        hall.question(1, 99);
        hall.question(1, 98);
        refuses("three of two themes", NO_ELEMENT, quotas(hall, 1, 2), TossupHall::packet);
        isSet(quotas(hall, 1, 1), 0, 2);
        isSet(quotas(hall, 0, 1), 1);
        TossupHall far = new TossupHall();
        int[] categories = {0, 1, 0, 1};
        int[] themes = {0, 1, 2, 0};
        for (int i = 0; i < 4; i++) {
            far.question(categories[i], themes[i]);
        }
        refuses("far from each other", NO_ELEMENT, quotas(far, 2, 2), TossupHall::packet);
        isSet(quotas(far, 2, 1), 0, 1, 2);
    }

    @Promise(value = 11, says = "no two that follow each other are of the same category")
    private static void p11Neighbours() {
        refuses("two of one", NO_ELEMENT, quotas(of(0, 0), 2), TossupHall::packet);
        isSet(quotas(of(0, 0, 1), 2, 1), 0, 2, 1);
        refuses("three and one", NO_ELEMENT, quotas(of(0, 0, 0, 1), 3, 1), TossupHall::packet);
        isSet(quotas(of(0, 0, 0, 1, 2), 3, 1, 1), 0, 3, 1, 4, 2);
        isSet(quotas(of(0, 0, 0, 0, 0, 1, 1, 1, 1), 5, 4), 0, 5, 1, 6, 2, 7, 3, 8, 4);
        refuses("six and four", NO_ELEMENT, quotas(of(0, 0, 0, 0, 0, 0, 1, 1, 1, 1), 6, 4), TossupHall::packet);
        isSet(quotas(of(1, 0, 0, 1), 2, 2), 0, 1, 3, 2);
    }

    @Promise(value = 11, says = "none repeats another one of it by 2 shingles or more")
    private static void p11Repeats() {
        int[][] words = {{1, 2, 3}, {1, 2, 3, 4}, {1, 2, 3, 4, 5}};
        for (int i = 0; i < 3; i++) {
            TossupHall hall = of(0, 1);
            Halls.words(hall, 0, 1, 2, 3, 4, 5, 6);
            Halls.words(hall, 1, words[i]);
            quotas(hall, 1, 1);
            answers("shingles", i + 1, hall, h -> h.repeats(0, 1));
            if (i == 0) {
                isSet(hall, 0, 1);
            } else {
                refuses(i + 1 + " shingles", NO_ELEMENT, hall, TossupHall::packet);
            }
        }
        TossupHall alike = of(0, 1);
        Halls.words(alike, 0, 1, 1, 1, 1, 1);
        Halls.words(alike, 1, 1, 1, 1, 1, 1);
        isSet(quotas(alike, 1, 1), 0, 1);
        TossupHall own = of(0);
        Halls.words(own, 0, 1, 2, 3, 4, 5);
        isSet(quotas(own, 1), 0);
        TossupHall far = of(0, 1, 0, 1);
        Halls.words(far, 0, 1, 2, 3, 4);
        Halls.words(far, 3, 1, 2, 3, 4);
        refuses("far from each other", NO_ELEMENT, quotas(far, 2, 2), TossupHall::packet);
    }

    @Promise(value = 11, says = "and none is in another packet")
    private static void p11OtherPackets() {
        TossupHall hall = quotas(of(0, 1, 0, 1, 0, 1), 1, 1);
        isSet(hall, 0, 1);
        isSet(hall, 2, 3);
        isSet(hall, 4, 5);
        refuses("all are in packets", NO_ELEMENT, hall, TossupHall::packet);
        hall.question(0, 0);
        refuses("one is free", NO_ELEMENT, hall, TossupHall::packet);
        hall.question(1, 1);
        isSet(hall, 6, 7);
    }

    @Promise(value = 11, says = "the first such order, compared question by question.")
    private static void p11First() {
        isSet(quotas(of(1, 1, 0, 0), 2, 2), 0, 2, 1, 3);
        isSet(quotas(of(0, 0, 1, 1, 2), 1, 1, 1), 0, 2, 4);
        isSet(quotas(of(0, 1, 1, 1), 1, 2), 1, 0, 2);
        TossupHall last = new TossupHall();
        for (int i = 0; i < 24; i++) {
            last.question(i < 22 ? 0 : i - 21, i);
        }
        isSet(quotas(last, 0, 1, 1), 22, 23);
        TossupHall clash = new TossupHall();
        clash.question(0, 0);
        clash.question(1, 0);
        clash.question(0, 1);
        isSet(quotas(clash, 1, 1), 1, 2);
    }

    // ---- promises 12 and 13

    @Promise(value = 12, says = "Throws IndexOutOfBoundsException if there is no such packet or place")
    private static void p12PacketAndPlace() {
        range("packet", 0, 3, INDEX, () -> packets(4), (h, v) -> h.packed(v, 0));
        range("packet", 0, 0, INDEX, () -> packets(1), (h, v) -> h.packed(v, 0));
        beyond("packet", 0, -1, INDEX, packets(0), (h, v) -> h.packed(v, 0));
        range("place", 0, 0, INDEX, () -> packets(1), (h, v) -> h.packed(0, v));
        Supplier<TossupHall> begin = () -> {
            TossupHall hall = ten();
            hall.packet();
            return hall;
        };
        range("place", 0, 9, INDEX, begin, (h, v) -> h.packed(0, v));
        refuses("neither", INDEX, packets(1), h -> h.packed(1, 1));
    }

    @Promise(value = 12, says = "Returns the question.")
    private static void p12Question() {
        TossupHall hall = quotas(of(5, 5, 4, 3), 0, 0, 0, 1, 1, 2);
        hall.packet();
        int[] due = {0, 2, 1, 3};
        for (int i = 0; i < 4; i++) {
            int place = i;
            answers("place " + i, due[i], hall, h -> h.packed(0, place));
        }
    }

    @Promise(value = 12, says = "place: the place, from 0")
    private static void p12FromZero() {
        TossupHall hall = quotas(of(0, 1), 0, 1);
        hall.packet();
        answers("the first", 1, hall, h -> h.packed(0, 0));
        refuses("one below", INDEX, hall, h -> h.packed(0, -1));
        refuses("one above", INDEX, hall, h -> h.packed(0, 1));
    }

    @Promise(value = 12, says = "Returns a question of a packet.")
    private static void p12OfEachPacket() {
        TossupHall hall = packets(4);
        for (int i = 0; i < 4; i++) {
            int packet = i;
            answers("of packet " + i, i, hall, h -> h.packed(packet, 0));
        }
    }

    @Promise(value = 13, says = "Throws IndexOutOfBoundsException if there is no such packet")
    private static void p13Packet() {
        range("packet", 0, 3, INDEX, () -> packets(4), (h, v) -> h.questions(v));
        range("packet", 0, 0, INDEX, () -> packets(1), (h, v) -> h.questions(v));
        beyond("packet", 0, -1, INDEX, packets(0), (h, v) -> h.questions(v));
    }

    @Promise(value = 13, says = "Returns how many.")
    private static void p13HowMany() {
        answers("the least", 1, packets(1), h -> h.questions(0));
        TossupHall hall = ten();
        hall.packet();
        answers("the most", 10, hall, h -> h.questions(0));
    }

    @Promise(value = 13, says = "Returns how many questions a packet has.")
    private static void p13OfEachPacket() {
        TossupHall hall = quotas(of(0, 1, 0, 1, 2, 3), 1, 1);
        hall.packet();
        quotas(hall, 1, 1, 1);
        hall.packet();
        quotas(hall, 0, 0, 0, 1);
        hall.packet();
        int[] due = {2, 3, 1};
        for (int i = 0; i < 3; i++) {
            int packet = i;
            answers("packet " + i, due[i], hall, h -> h.questions(packet));
        }
    }
}
