/** Counts the answers that are not as due, and prints each of them. */
final class Answers {
    private int checked = 0;
    private int wrong = 0;

    void due(String call, Object got, Object want) {
        checked++;
        if (!want.equals(got)) {
            wrong++;
            System.out.println(call + " answered " + got + ", due is " + want);
        }
    }

    /** The call must throw exactly this class: a subclass or another one is wrong. */
    void refuses(String call, Class<? extends RuntimeException> want, Runnable run) {
        String got = "nothing";
        try {
            run.run();
        } catch (RuntimeException e) {
            got = e.getClass().getSimpleName();
        }
        due(call + " throws", got, want.getSimpleName());
    }

    void end() {
        System.out.println(checked + " answers, " + wrong + " not as due");
        if (wrong != 0) {
            System.exit(1);
        }
    }
}
