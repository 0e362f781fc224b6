/** Counts and prints the calls whose answer is not the one that is due. */
final class Check {
    private static final int SHOWN = 40;
    private String sentence = "";
    private int sentences = 0;
    private int askedOfSentence = 0;
    private int asked = 0;
    private int wrong = 0;

    /** What comes now tests this sentence of the document, up to the next one. */
    void sentence(String text) {
        endSentence();
        sentence = "'" + text + "': ";
        sentences++;
        askedOfSentence = 0;
    }

    private void endSentence() {
        if (sentences > 0 && askedOfSentence == 0) {
            wrong++;
            System.out.println(sentence + "nothing was asked");
        }
    }

    void due(String call, long got, long want) {
        asked++;
        askedOfSentence++;
        if (got != want) {
            wrong++;
            if (wrong <= SHOWN) {
                System.out.println(sentence + call + " answered " + got + ", due is " + want);
            }
        }
    }

    /** Ends the program with exit code 1 if an answer was wrong, or if nothing was asked. */
    void end() {
        endSentence();
        System.out.println((sentences == 0 ? "" : sentences + " sentences, ") + asked + " answers, " + wrong
            + " not as due");
        if (wrong != 0 || asked == 0) {
            System.exit(1);
        }
    }
}
