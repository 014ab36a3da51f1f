/** Counts the answers that are not as due, and tells them. */
final class Checks {
    private static int made = 0;
    private static int wrong = 0;

    private Checks() {
    }

    static void same(String what, long got, long due) {
        made++;
        if (got != due) {
            tell(what + " answered " + got + ", due is " + due);
        }
    }

    static void letter(String what, char got, char due) {
        made++;
        if (got != due) {
            tell(what + " answered '" + got + "', due is '" + due + "'");
        }
    }

    static void holds(String what, boolean got) {
        made++;
        if (!got) {
            tell(what + " does not hold");
        }
    }

    static void exact(String what, double got, double due) {
        made++;
        if (Double.doubleToLongBits(got) != Double.doubleToLongBits(due)) {
            tell(what + " answered " + got + ", due is " + due);
        }
    }

    static void fails(String what, Class<? extends RuntimeException> due, Runnable call) {
        made++;
        try {
            call.run();
        } catch (RuntimeException e) {
            if (e.getClass() != due) {
                tell(what + " threw " + e.getClass().getName() + ", due is " + due.getName());
            }
            return;
        }
        tell(what + " threw nothing, due is " + due.getName());
    }

    static void tell(String fault) {
        wrong++;
        if (wrong <= 50) {
            System.out.println(fault);
        }
    }

    static void finish(String name) {
        System.out.println(name + ": " + made + " checks, " + wrong + " wrong");
        if (wrong > 0) {
            System.exit(1);
        }
    }
}
