/** What every test of this kind does with an answer: it is told when it is not the one that is due. */
abstract class Checks {
    private static int wrong = 0;
    private static String about = "";

    static void about(String promise) {
        about = promise;
    }

    static void due(String call, Object got, Object want) {
        if (!want.equals(got)) {
            wrong++;
            System.out.println(about + ": " + call + " answered " + got + ", due is " + want);
        }
    }

    static void finish() {
        System.out.println(wrong == 0 ? "all answers are as due" : wrong + " answers are not as due");
        if (wrong != 0) {
            System.exit(1);
        }
    }
}
