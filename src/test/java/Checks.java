import java.util.Objects;

/** Counts the answers that are not as due, and ends the program with 1 if there were any. */
final class Checks {

    interface Call {
        Object answer();
    }

    interface Order {
        void carryOut();
    }

    private int wrong;

    void due(String call, Object got, Object want) {
        if (!Objects.equals(got, want)) {
            wrong++;
            System.out.println(call + " answered " + got + ", due is " + want);
        }
    }

    void finish() {
        System.out.println(wrong == 0 ? "all answers are as due" : wrong + " answers are not as due");
        if (wrong != 0) {
            System.exit(1);
        }
    }

    /** A call's answer, or throws. and the exception's own name, as the issues write it. */
    static Object answer(Call call) {
        try {
            return call.answer();
        } catch (RuntimeException e) {
            return "throws." + e.getClass().getSimpleName();
        }
    }

    /** The same for a call that answers nothing: "done" stands for its end. */
    static Object outcome(Order order) {
        return answer(() -> {
            order.carryOut();
            return "done";
        });
    }

    /** What the face lets one see of a yard without changing it: 96 calls at the most. */
    static String picture(ForwardYard yard) {
        StringBuilder seen = new StringBuilder();
        for (int k = 0; k < 4; k++) {
            seen.append(yard.figure(k)).append(' ');
        }
        for (int w = 0; w < 4; w++) {
            seen.append(yard.watched(w)).append(' ');
        }
        for (int r = 0; r < 8; r++) {
            seen.append("| ").append(yard.reach(r)).append(' ');
            if (yard.reach(r) > 0) {
                appendObject(seen, yard, r);
            }
        }
        return seen.toString();
    }

    private static void appendObject(StringBuilder seen, ForwardYard yard, int r) {
        int fields = yard.about(r, 3);
        for (int what = 0; what < 4; what++) {
            seen.append(yard.about(r, what)).append(' ');
        }
        for (int f = 0; f < fields; f++) {
            seen.append(yard.field(r, f)).append(' ');
        }
    }
}
