import java.util.NoSuchElementException;
import java.util.Random;

/** Promise 11 once more: the first order, found in another way, for many quotas and many clashes. */
public final class PacketSearchTest {
    public static void main(String[] args) {
        for (int first = 0; first <= 10; first++) {
            for (int second = 0; first + second <= 10; second++) {
                for (int third = 0; first + second + third <= 10; third++) {
                    withoutClashes(new int[] {first, second, third});
                }
            }
        }
        for (int seed = 0; seed < 4000; seed++) {
            withClashes(new Random(seed));
        }
        for (int seed = 0; seed < 60; seed++) {
            crowded(new Random(seed));
        }
        Checks.finish("PacketSearchTest");
    }

    /** As many questions as the quotas ask for: then only neighbours can be in the way. */
    private static void withoutClashes(int[] quotas) {
        TossupHall hall = new TossupHall();
        int[] left = quotas.clone();
        int places = quotas[0] + quotas[1] + quotas[2];
        if (places == 0) {
            return;
        }
        int[] categories = new int[places];
        Random random = new Random(places);
        for (int i = 0; i < places; i++) {
            int category = random.nextInt(3);
            while (left[category] == 0) {
                category = (category + 1) % 3;
            }
            left[category]--;
            categories[i] = category;
            hall.question(category, i);
        }
        for (int i = 0; i < 3; i++) {
            hall.quota(i, quotas[i]);
        }
        String what = "promise 11: " + quotas[0] + ", " + quotas[1] + ", " + quotas[2];
        if (!canEnd(quotas.clone(), -1)) {
            Checks.fails(what, Halls.NO_ELEMENT, hall::packet);
            return;
        }
        Checks.same(what, hall.packet(), 0);
        isFirst(what, hall, categories, quotas.clone());
    }

    private static boolean canEnd(int[] left, int last) {
        boolean isEmpty = true;
        for (int i = 0; i < left.length; i++) {
            if (left[i] > 0) {
                isEmpty = false;
                if (i != last) {
                    left[i]--;
                    boolean can = canEnd(left, i);
                    left[i]++;
                    if (can) {
                        return true;
                    }
                }
            }
        }
        return isEmpty;
    }

    private static void isFirst(String what, TossupHall hall, int[] categories, int[] left) {
        boolean[] used = new boolean[categories.length];
        int last = -1;
        for (int place = 0; place < categories.length; place++) {
            for (int i = 0; i < categories.length; i++) {
                int category = categories[i];
                if (used[i] || category == last) {
                    continue;
                }
                left[category]--;
                if (canEnd(left, category)) {
                    Checks.same(what + ", place " + place, hall.packed(0, place), i);
                    used[i] = true;
                    last = category;
                    break;
                }
                left[category]++;
            }
        }
    }

    private static void withClashes(Random random) {
        TossupHall hall = new TossupHall();
        HallModel model = new HallModel();
        int categories = 1 + random.nextInt(5);
        int themes = 3 + random.nextInt(20);
        int count = 3 + random.nextInt(9);
        for (int i = 0; i < count; i++) {
            int category = random.nextInt(categories);
            int theme = random.nextInt(themes);
            hall.question(category, theme);
            model.question(category, theme);
            for (int j = random.nextInt(12); j > 0; j--) {
                int word = random.nextInt(3);
                hall.word(i, word);
                model.word(i, word);
            }
        }
        for (int packet = 0; packet < 5; packet++) {
            for (int i = 0; i < categories; i++) {
                int quota = random.nextInt(3);
                hall.quota(i, quota);
                model.quota(i, quota);
            }
            String got = packetOf(hall);
            String due = packetOf(model);
            Checks.holds("promise 11: " + got + " is " + due, got.equals(due));
        }
    }

    private static String packetOf(TossupHall hall) {
        try {
            int packet = hall.packet();
            StringBuilder told = new StringBuilder();
            for (int i = 0; i < hall.questions(packet); i++) {
                told.append(hall.packed(packet, i)).append(' ');
            }
            return told.toString();
        } catch (NoSuchElementException e) {
            return "none";
        } catch (UnsupportedOperationException e) {
            return "no quotas";
        } catch (IllegalStateException e) {
            return "too many";
        }
    }

    private static String packetOf(HallModel model) {
        try {
            int packet = model.packet();
            StringBuilder told = new StringBuilder();
            for (int question : model.packets.get(packet)) {
                told.append(question).append(' ');
            }
            return told.toString();
        } catch (NoSuchElementException e) {
            return "none";
        } catch (UnsupportedOperationException e) {
            return "no quotas";
        } catch (IllegalStateException e) {
            return "too many";
        }
    }

    /** 24 questions with many clashes, for which trying each order has no end; what is set is as it should be. */
    private static void crowded(Random random) {
        TossupHall hall = new TossupHall();
        int[] categories = new int[24];
        int[] themes = new int[24];
        for (int i = 0; i < 24; i++) {
            categories[i] = i % (2 + random.nextInt(5));
            themes[i] = random.nextInt(9 + random.nextInt(9));
            hall.question(categories[i], themes[i]);
            for (int j = random.nextInt(19); j > 0; j--) {
                hall.word(i, random.nextInt(4));
            }
        }
        for (int i = 0; i < 5; i++) {
            hall.quota(i, 2);
        }
        String got = packetOf(hall);
        Checks.holds("promise 11: crowded", true);
        if (got.equals("none")) {
            return;
        }
        for (int i = 0; i < 10; i++) {
            int one = hall.packed(0, i);
            for (int j = 0; j < i; j++) {
                int other = hall.packed(0, j);
                Checks.holds("promise 11: themes", themes[one] != themes[other]);
                Checks.holds("promise 11: repeats", hall.repeats(one, other) < 2);
                Checks.holds("promise 11: neighbours", j < i - 1 || categories[one] != categories[other]);
            }
        }
    }
}
