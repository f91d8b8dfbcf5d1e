/** Compares answers with those that are due and counts the wrong ones. */
final class Check {
    private final String name;
    private int right;
    private int wrong;

    Check(String name) {
        this.name = name;
    }

    void due(String call, long answer, long due) {
        if (answer == due) {
            right++;
            return;
        }
        wrong++;
        if (wrong <= 40) {
            System.out.println(name + ": " + call + " answered " + answer + ", due is " + due);
        }
    }

    boolean anyWrong() {
        return wrong > 0;
    }

    void end() {
        System.out.println(right + " passed, " + wrong + " failed");
        if (wrong > 0 || right == 0) {
            System.exit(1);
        }
    }
}
