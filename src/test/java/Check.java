/** Compares answers with those that are due, and ends a test. */
final class Check {
    private static int checks;
    private static int wrong;

    private Check() {
    }

    static void due(String call, int got, int want) {
        checks++;
        if (got != want) {
            wrong++;
            System.out.println(call + " answered " + got + ", due is " + want);
        }
    }

    static void holds(String what, boolean is) {
        checks++;
        if (!is) {
            wrong++;
            System.out.println("does not hold: " + what);
        }
    }

    static boolean allRight() {
        return wrong == 0;
    }

    /** Types a text, whose characters must all be taken. */
    static void typeAll(NoonWells wells, String text) {
        int length = wells.count(14);
        for (int i = 0; i < text.length(); i++) {
            due("type " + text.charAt(i), wells.type(text.charAt(i)), length + i + 1);
        }
    }

    static void end() {
        System.out.println(checks + " checks, " + wrong + " wrong");
        if (wrong != 0 || checks == 0) {
            System.exit(1);
        }
    }
}
