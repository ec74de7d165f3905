/** What the tests of boundary cases share: the sentence that is tested, and how many answers were not as due. */
public class Bounds {
    public static final int BAD = -1, NOT = -2, FULL = -3, STATE = -5, VOID = -2000000000;
    public static final int NOTHING = -11, OTHER_KIND = -12, NO_PLACE = -13, SIZE_BELOW = -14;
    public static final int MAX = Integer.MAX_VALUE, MIN = Integer.MIN_VALUE;
    private static String sentence = "";
    private static int sentences = 0;
    private static int answers = 0;
    private static int wrong = 0;

    /** The promise and the words of the document that the next answers test. */
    public static void says(int promise, String words) {
        sentence = "promise " + promise + ", \"" + words + "\"";
        sentences++;
    }

    /** Looks at the answer of the latest call of a Hall. */
    public static void due(long got, long want) {
        answers++;
        if (got != want) fault(Hall.latest() + " answered " + got + ", due is " + want);
    }

    public static void fault(String what) {
        wrong++;
        System.out.println(sentence + ": " + what);
    }

    public static void end() {
        System.out.println(sentences + " sentences, " + answers + " answers, " + wrong + " not as due");
        if (wrong != 0 || answers == 0) System.exit(1);
    }
}
