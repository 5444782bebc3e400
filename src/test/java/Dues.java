/** Counts the answers that are not the ones that are due. */
final class Dues {
    private int asked = 0;
    private int wrong = 0;
    private String part = "";

    void begin(String name) {
        part = name;
    }

    void due(String call, long got, long want) {
        asked++;
        if (got != want) {
            wrong++;
            System.out.println(part + ": " + call + " answered " + got + ", due is " + want);
        }
    }

    /** has, thought: the fraction that they tell. */
    void fraction(String call, HardEnvoys x, long above, long below) {
        due(call + ": above", x.part(0), above);
        due(call + ": below", x.part(1), below);
    }

    void end() {
        System.out.println(asked + " answers, " + wrong + " not as due");
        if (wrong != 0 || asked == 0) {
            System.exit(1);
        }
    }
}
