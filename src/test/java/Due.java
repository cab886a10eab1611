/** Compares answers with the ones that are due, and ends a test with exit code 1 if one differs. */
final class Due {
    private static int wrong = 0;
    private static int asked = 0;
    private static int sentences = 0;
    private static String sentence = "";

    private Due() {
    }

    /** Names the section and the sentence of the document by which the next answers are due. */
    static void by(String section, String words) {
        sentences++;
        sentence = section + ", \"" + words + "\": ";
        if (!Document.says(section, words)) {
            tellWrong("the document does not say so");
        }
    }

    static void due(String call, long got, long want) {
        asked++;
        if (got != want) {
            tellWrong(call + " answered " + got + ", due is " + want);
        }
    }

    static void dueText(String call, String got, String want) {
        asked++;
        if (!got.equals(want)) {
            tellWrong(call + " answered \"" + got + "\", due is \"" + want + "\"");
        }
    }

    private static void tellWrong(String what) {
        wrong++;
        System.out.println(sentence + what);
    }

    static boolean anyWrong() {
        return wrong != 0;
    }

    static void finish() {
        String all = asked + " answers by " + sentences + " sentences";
        System.out.println(wrong == 0 ? all + " are as due" : wrong + " of " + all + " are not as due");
        if (wrong != 0) {
            System.exit(1);
        }
    }
}
