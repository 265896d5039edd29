/** Counts the answers that are not as due, and prints them. */
final class Checks {
    private int wrong;
    private int asked;
    private String part = "";

    void part(String name) { part = name; }

    void due(String call, long got, long want) {
        asked++;
        if (got != want) {
            wrong++;
            System.out.println(part + ": " + call + " answered " + got + ", due is " + want);
        }
    }

    void end() {
        System.out.println(asked + " answers, " + wrong + " not as due");
        if (wrong != 0) System.exit(1);
    }
}
