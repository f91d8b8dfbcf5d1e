/** A call that returns an error changes nothing, and of several errors the first one is told. */
public final class ErrorsTest {
    private final Check check = new Check("ErrorsTest");

    public static void main(String[] args) {
        ErrorsTest test = new ErrorsTest();
        test.nothingChanges(false);
        test.nothingChanges(true);
        test.orderOfErrors();
        test.check.end();
    }

    /** Seven changes with a text of 200 characters and 20 signs, so that each limit is reached. */
    private WordMaze busy(boolean single) {
        WordMaze maze = Mazes.of("HOW");
        int signs = 0;
        for (int cell = 0; cell < 102 && signs < 20; cell++) {
            signs = Math.max(signs, maze.sign(cell, signs % 3, 0));
        }
        maze.make(4711);
        if (!single) {
            maze.door(0, 2, 0);
        }
        maze.start(101);
        maze.goal(22);
        for (int k = 0; k < 201; k++) {
            maze.type("URDLx".charAt(k % 5));
        }
        return maze;
    }

    private void nothingChanges(boolean single) {
        WordMaze maze = busy(single);
        WordMaze twin = busy(single);
        makeErrors(maze, single);
        for (int states = 5; states >= 0; states--) {
            same(maze, twin, "with " + states + " states");
            check.due("undo()", maze.undo(), twin.undo());
        }
    }

    private void makeErrors(WordMaze maze, boolean single) {
        check.due("word()", maze.word(), -2);
        check.due("letterOf(1)", maze.letterOf(1), -1);
        check.due("letterOf(101)", maze.letterOf(101), -4);
        check.due("letter(3, 0)", maze.letter(3, 0), -4);
        check.due("letter(0, 5)", maze.letter(0, 5), -1);
        check.due("isRoom(102)", maze.isRoom(102), -1);
        check.due("make(65536)", maze.make(65536), -1);
        check.due("make(-1)", maze.make(-1), -1);
        check.due("door(0, 0, 1)", maze.door(0, 0, 1), -4);
        check.due("door(0, 2, 2)", maze.door(0, 2, 2), -1);
        check.due("door(0, 6, 1)", maze.door(0, 6, 1), -1);
        check.due("door(1, 2, 1)", maze.door(1, 2, 1), -1);
        check.due("doors(1)", maze.doors(1), -1);
        check.due("count(16)", maze.count(16), -1);
        check.due("part(1)", maze.part(1), -1);
        check.due("start(1)", maze.start(1), -1);
        check.due("goal(1)", maze.goal(1), -1);
        check.due("distance(1, 0)", maze.distance(1, 0), -1);
        check.due("again(0, 1)", maze.again(0, 1), -1);
        check.due("again(0, 0)", maze.again(0, 0), single ? 0 : -2);
        check.due("way(0, 0, 1)", maze.way(0, 0, 1), -4);
        check.due("farthest(0, 2)", maze.farthest(0, 2), -1);
        check.due("longest(3)", maze.longest(3), -1);
        check.due("sign(101, 0, 0)", maze.sign(101, 0, 0), -3);
        check.due("sign(0, 0, 1)", maze.sign(0, 0, 1), -1);
        check.due("unsign(1)", maze.unsign(1), -1);
        check.due("unsign(101)", maze.unsign(101), -4);
        check.due("points(101)", maze.points(101), -2);
        check.due("walk(2001, 0)", maze.walk(2001, 0), -1);
        check.due("type(31)", maze.type(31), -1);
        check.due("type(65)", maze.type(65), -3);
        check.due("fault(2)", maze.fault(2), -1);
    }

    private void same(WordMaze maze, WordMaze twin, String when) {
        for (int what = 0; what < 16; what++) {
            check.due("count(" + what + ") " + when, maze.count(what), twin.count(what));
        }
        for (int cell = 0; cell < 102; cell++) {
            check.due("doors(" + cell + ") " + when, maze.doors(cell), twin.doors(cell));
            check.due("points(" + cell + ") " + when, maze.points(cell), twin.points(cell));
        }
        check.due("fault(0) " + when, maze.fault(0), twin.fault(0));
        check.due("walked() " + when, maze.walked(), twin.walked());
    }

    private void orderOfErrors() {
        WordMaze maze = busy(false);
        check.due("letter: out of range before not found", maze.letter(3, 5), -1);
        check.due("letter: negative before not found", maze.letter(-1, 5), -1);
        check.due("door: out of range before not found", maze.door(0, 0, 2), -1);
        check.due("again: no room before not possible", maze.again(1, 0), -1);
        check.due("distance: no room before not found", maze.distance(0, 1), -1);
        check.due("way: negative before not found", maze.way(0, 101, -1), -1);
        check.due("way: no way", maze.way(0, 101, 0), -4);
        check.due("sign: out of range before the limit", maze.sign(101, 3, 0), -1);
        check.due("sign: no room before the limit", maze.sign(102, 0, 0), -1);
        check.due("unsign: no room before not found", maze.unsign(102), -1);
        check.due("points: no room before not possible", maze.points(1), -1);
        check.due("points: not possible before not found", maze.points(101), -2);
        check.due("type: out of range before the limit", maze.type(127), -1);
        check.due("fault: out of range before not found", maze.fault(-1), -1);
    }
}
