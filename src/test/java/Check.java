/** What every test of the project uses: it counts answers, tells the wrong ones, and ends by them. */
final class Check {
    private static int wrong = 0;
    private static int asked = 0;

    private Check() {
    }

    static void due(String call, long got, long want) {
        due(call, tell(got), tell(want));
    }

    static void due(String call, boolean got, boolean want) {
        due(call, got ? "true" : "false", want ? "true" : "false");
    }

    static void due(String call, String got, String want) {
        asked++;
        if (!got.equals(want)) {
            wrong++;
            if (wrong <= 50) {
                System.out.println(call + " answered " + got + ", due is " + want);
            }
        }
    }

    private static String tell(long answer) {
        return answer == Face.THROWS ? "a throw" : Long.toString(answer);
    }

    static void finish() {
        System.out.println(asked + " answers, " + wrong + " of them wrong");
        if (wrong != 0 || asked == 0) {
            System.exit(1);
        }
    }
}
