/** Counts answers, and prints those that are not the ones that are due. */
final class Check {
    private static int made = 0;
    private static int wrong = 0;

    private Check() {
    }

    static void due(String call, long got, long want) {
        made++;
        if (got != want) {
            wrong++;
            System.out.println(call + " answered " + got + ", due is " + want);
        }
    }

    static void holds(String what, boolean held) {
        made++;
        if (!held) {
            wrong++;
            System.out.println("does not hold: " + what);
        }
    }

    static int wrong() {
        return wrong;
    }

    /** Ends the test, with exit code 1 if an answer was wrong. */
    static void end(String test) {
        System.out.println(test + ": " + (made - wrong) + " answers as due, " + wrong + " not");
        if (wrong != 0) {
            System.exit(1);
        }
    }
}
