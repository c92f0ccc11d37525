/** Counts and prints every answer that is not the one that is due. */
final class Due {
    private static int looked = 0;
    private static int wrong = 0;

    private Due() {
    }

    static void due(String what, long got, long want) {
        looked++;
        if (got != want) {
            wrong++;
            System.out.println(what + " answered " + got + ", due is " + want);
        }
    }

    static void holds(String what, boolean so) {
        due(what, so ? 1 : 0, 1);
    }

    static boolean tooManyWrong() {
        return wrong > 50;
    }

    static void end() {
        System.out.println(wrong == 0 ? looked + " answers are as due" : wrong + " of " + looked + " are not as due");
        if (wrong != 0) {
            System.exit(1);
        }
    }
}
