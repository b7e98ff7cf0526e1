/** Counts what is as due and what is not; a test ends with its finish. */
final class Checks {
    private final String name;
    private int right = 0;
    private int wrong = 0;

    Checks(String name) {
        this.name = name;
    }

    void same(String what, long got, long due) {
        count(what, got == due, Long.toString(got), Long.toString(due));
    }

    void same(String what, double got, double due) {
        count(what, got == due, Double.toString(got), Double.toString(due));
    }

    void yes(String what, boolean got) {
        count(what, got, "false", "true");
    }

    void no(String what, boolean got) {
        count(what, !got, "true", "false");
    }

    /** The call throws just that, and the works stays as it was. */
    void refuses(String what, ClinkerWorks works, Class<? extends RuntimeException> due, Runnable call) {
        long before = works.digest();
        String got = "nothing";
        try {
            call.run();
        } catch (RuntimeException thrown) {
            got = thrown.getClass().getName();
        }
        count(what, got.equals(due.getName()), got, due.getName());
        same(what + ", digest behind it", works.digest(), before);
    }

    void refusesIndex(String what, ClinkerWorks works, Runnable call) {
        refuses(what, works, IndexOutOfBoundsException.class, call);
    }

    void refusesArgument(String what, ClinkerWorks works, Runnable call) {
        refuses(what, works, IllegalArgumentException.class, call);
    }

    void refusesState(String what, ClinkerWorks works, Runnable call) {
        refuses(what, works, IllegalStateException.class, call);
    }

    boolean allAsDue() {
        return wrong == 0 && right > 0;
    }

    void finish() {
        System.out.println(name + ": " + right + " as due, " + wrong + " not");
        if (!allAsDue()) {
            System.exit(1);
        }
    }

    private void count(String what, boolean holds, String got, String due) {
        if (holds) {
            right++;
            return;
        }
        wrong++;
        System.out.println(name + ": " + what + " answered " + got + ", due is " + due);
    }
}
