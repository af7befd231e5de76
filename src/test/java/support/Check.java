/** Counts the answers that are not as due, and tells the sentence of the document that each stands for. */
final class Check {
    private static int asked = 0;
    private static int wrong = 0;
    private static int askedOfSentence = 1;
    private static String sentence = "";

    private Check() {
    }

    /** What is asked from here on stands for these words of the document, in this part of it. */
    static void sentence(String where, String words) {
        endSentence();
        askedOfSentence = 0;
        sentence = where + ", \"" + words + "\": ";
        if (!Doc.says(where, words)) {
            wrong++;
            System.out.println(sentence + "the document does not say so there");
        }
    }

    private static void endSentence() {
        if (askedOfSentence == 0) {
            wrong++;
            System.out.println(sentence + "nothing is asked");
        }
    }

    static void due(String call, long got, long want) {
        asked++;
        askedOfSentence++;
        if (got != want) {
            wrong++;
            System.out.println(sentence + call + " answered " + got + ", due is " + want);
        }
    }

    /** That a call is recorded as one state, the one ahead of it, above those that were recorded before. */
    static void recorded(String call, OrganWind x, int statesBefore, Runnable made) {
        long before = x.checksum();
        made.run();
        due("undo after " + call, x.undo(), statesBefore);
        due("checksum after undoing " + call, x.checksum(), before);
    }

    static void end() {
        endSentence();
        System.out.println(asked + " answers, " + wrong + " not as due");
        if (wrong != 0 || asked == 0) {
            System.exit(1);
        }
    }
}
