/** Counts and prints the answers that are not the ones that are due. */
final class Check {
    private final String name;
    private int made = 0;
    private int wrong = 0;

    Check(String name) {
        this.name = name;
    }

    void due(String call, long got, long want) {
        made++;
        if (got != want) {
            wrong++;
            System.out.println(name + ": " + call + " answered " + got + ", due is " + want);
        }
    }

    boolean allRight() {
        return wrong == 0;
    }

    void end() {
        System.out.println(name + ": " + (made - wrong) + " of " + made + " answers are as due");
        if (wrong != 0) {
            System.exit(1);
        }
    }
}
