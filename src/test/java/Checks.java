import java.util.Objects;

/** Counts the answers that are not as due; every test of the project ends with its verdict. */
final class Checks {
    private int made;
    private int wrong;

    void due(String call, Object got, Object want) {
        made++;
        if (!Objects.equals(got, want)) {
            wrong++;
            System.out.println(call + " answered " + got + ", due is " + want);
        }
    }

    void endWithVerdict(String test) {
        System.out.println(test + ": " + made + " answers, " + wrong + " not as due");
        if (wrong != 0 || made == 0) {
            System.exit(1);
        }
    }
}
