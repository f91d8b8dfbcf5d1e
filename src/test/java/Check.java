/** Compares answers with those that are due and counts the wrong ones; a call that does not end is a wrong one too. */
final class Check {
    private static final int MOST_SECONDS = 300;

    private final String name;
    private int right;
    private int wrong;

    Check(String name) {
        this.name = name;
        Thread guard = new Thread(this::endAtLast);
        guard.setDaemon(true);
        guard.start();
    }

    private void endAtLast() {
        try {
            Thread.sleep(1000L * MOST_SECONDS);
        } catch (InterruptedException stopped) {
            return;
        }
        System.out.println(name + ": not at its end after " + MOST_SECONDS + " seconds");
        Runtime.getRuntime().halt(1);
    }

    void due(String call, long answer, long due) {
        if (answer == due) {
            right++;
            return;
        }
        wrong++;
        if (wrong <= 40) {
            System.out.println(name + ": " + call + " answered " + answer + ", due is " + due);
        }
    }

    boolean anyWrong() {
        return wrong > 0;
    }

    void end() {
        System.out.println(right + " passed, " + wrong + " failed");
        if (wrong > 0 || right == 0) {
            System.exit(1);
        }
    }
}
