/** Counts and prints the answers that are not the ones that are due. */
final class Check {
    private final String name;
    private String sentence = "";
    private int madeBefore = 0;
    private int sentences = 0;
    private int made = 0;
    private int wrong = 0;

    Check(String name) {
        this.name = name;
    }

    /** The answers from here on are due by these words, which stand in that place of the document. */
    void sentence(String place, String words) {
        closeSentence();
        sentence = " [" + place + ": \"" + words + "\"]";
        madeBefore = made;
        sentences++;
    }

    void due(String call, long got, long want) {
        made++;
        if (got != want) {
            wrong++;
            System.out.println(name + sentence + ": " + call + " answered " + got + ", due is " + want);
        }
    }

    boolean allRight() {
        return wrong == 0;
    }

    void end() {
        closeSentence();
        String tested = sentences == 0 ? "" : " for " + sentences + " sentences";
        System.out.println(name + ": " + (made - wrong) + " of " + made + " answers are as due" + tested);
        if (wrong != 0) {
            System.exit(1);
        }
    }

    /** A sentence that nothing was asked for is a test that was forgotten. */
    private void closeSentence() {
        if (!sentence.isEmpty() && made == madeBefore) {
            wrong++;
            System.out.println(name + sentence + ": no answer was compared");
        }
    }
}
