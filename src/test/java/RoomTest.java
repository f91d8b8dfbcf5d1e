import java.lang.management.ManagementFactory;

/** What an object and its 512 calls make stays far below the room that all calls of one run have. */
public final class RoomTest {
    private static final long BYTES_OF_AN_OBJECT = 40000;

    private final Check check = new Check("RoomTest");
    private final com.sun.management.ThreadMXBean threads =
        (com.sun.management.ThreadMXBean) ManagementFactory.getThreadMXBean();

    public static void main(String[] args) {
        RoomTest test = new RoomTest();
        for (int round = 0; round < 3; round++) {
            test.dearestCalls(new WordMaze());
        }
        test.newObjects();
        test.noObjectsInCalls();
        test.check.end();
    }

    private long bytes() {
        return threads.getThreadAllocatedBytes(Thread.currentThread().getId());
    }

    private void newObjects() {
        long before = bytes();
        for (int k = 0; k < 10; k++) {
            new WordMaze();
        }
        check.due("bytes of ten objects are few", bytes() - before < 10 * BYTES_OF_AN_OBJECT ? 1 : 0, 1);
    }

    private void noObjectsInCalls() {
        WordMaze maze = new WordMaze();
        long before = bytes();
        dearestCalls(maze);
        check.due("bytes of 512 calls are next to none", bytes() - before < 20000 ? 1 : 0, 1);
    }

    private void dearestCalls(WordMaze maze) {
        maze.clearText();
        for (int k = 0; k < 6; k++) {
            maze.type('W');
        }
        for (int k = 0; k < 15; k++) {
            maze.word();
            maze.make(k);
            maze.sign(175, 2, 1);
            maze.unsign(175);
            maze.door(175, 1, 1);
            maze.start(175);
            maze.goal(209);
            maze.points(175);
            maze.undo();
            maze.undo();
            maze.type('U');
            maze.fault(0);
            maze.moved();
            maze.clearText();
            for (int what = 0; what < 6; what++) {
                maze.count(2 + what);
                maze.type('W');
            }
            maze.longest(0);
            maze.walk(2000, 2);
            maze.walked();
            maze.grade();
            maze.part(209);
        }
    }
}
