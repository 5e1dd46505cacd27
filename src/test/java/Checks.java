import java.util.Objects;

/** Counts the answers that are not as due, and ends the program with 1 if there were any. */
final class Checks {

    private int wrong;

    void due(String call, Object got, Object want) {
        if (!Objects.equals(got, want)) {
            wrong++;
            System.out.println(call + " answered " + got + ", due is " + want);
        }
    }

    void finish() {
        boolean well = wrong == 0;
        System.out.println(well ? "all answers are as due" : wrong + " answers are not as due");
        if (!well) {
            System.exit(1);
        }
    }
}
