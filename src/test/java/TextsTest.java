/** Promises 25 to 28: type, clearText, fault, moved. */
public final class TextsTest {
    private final Check check = new Check("TextsTest");

    public static void main(String[] args) {
        TextsTest test = new TextsTest();
        test.type();
        test.mostCharacters();
        test.notAChange();
        test.faults();
        test.firstReason();
        test.characters();
        test.inTheGoal();
        test.longMoves();
        test.faultErrors();
        test.check.end();
    }

    private void type() {
        WordMaze maze = new WordMaze();
        int[] bad = {Integer.MIN_VALUE, -1, 0, 10, 31, 127, 255, 65536 + 'U', Integer.MAX_VALUE};
        for (int character : bad) {
            check.due("type(" + character + ")", maze.type(character), -1);
        }
        check.due("clearText() of an empty text", maze.clearText(), 0);
        check.due("type(32)", maze.type(32), 1);
        check.due("type(126)", maze.type(126), 2);
        check.due("clearText()", maze.clearText(), 2);
        check.due("clearText() again", maze.clearText(), 0);
        check.due("type(72)", maze.type(72), 1);
        check.due("word() of the new text", maze.word(), 18);
        check.due("type(73) behind word()", maze.type(73), 2);
    }

    private void mostCharacters() {
        WordMaze maze = new WordMaze();
        for (int length = 1; length <= 200; length++) {
            check.due("type number " + length, maze.type('L'), length);
        }
        check.due("type number 201", maze.type('L'), -3);
        check.due("type number 201 of 31", maze.type(31), -1);
        check.due("type number 201 of 127", maze.type(127), -1);
        check.due("count(15)", maze.count(15), 200);
        check.due("word()", maze.word(), -2);
        check.due("clearText()", maze.clearText(), 200);
        check.due("type then", maze.type('L'), 1);
    }

    private void notAChange() {
        WordMaze maze = new WordMaze();
        maze.start(56);
        maze.type('U');
        maze.clearText();
        maze.type('I');
        check.due("history behind texts", maze.count(14), 1);
        check.due("undo()", maze.undo(), 0);
        check.due("the text behind undo()", maze.count(15), 1);
        check.due("word() behind undo()", maze.word(), 10);
        check.due("the text behind word()", maze.count(15), 1);
    }

    private void faults() {
        WordMaze maze = Mazes.opened("I");
        due(maze, "", 0, 5, 25);
        due(maze, "RR", 2, 5, 27);
        due(maze, "RRUUUU", 6, 5, 7);
        due(maze, "RRUUUUU", -4, -4, 2);
        due(maze, "RRUUUUUD", 7, 4, 2);
        due(maze, "RRUUUUUX", 7, 1, 2);
        due(maze, "RRUUUUUU", 7, 2, 2);
        due(maze, "RRLRUUUUU", -4, -4, 2);
        due(maze, "RXRUUUUU", 1, 1, 26);
        due(maze, "rRUUUUU", 0, 1, 25);
        due(maze, "RUUUUU", 1, 2, 26);
        due(maze, "L", 0, 2, 25);
        due(maze, "D", 0, 2, 25);
        due(maze, "RRRRR", 4, 2, 29);
        maze.door(27, 0, 0);
        due(maze, "RRUUUUU", 2, 3, 27);
        due(maze, "RR", 2, 5, 27);
        maze.start(2);
        due(maze, "", -4, -4, 2);
        due(maze, "D", 0, 4, 2);
        maze.goal(22);
        due(maze, "DDDD", -4, -4, 22);
        due(maze, "DDDU", 4, 5, 12);
        due(maze, "DDDDD", 4, 3, 22);
    }

    private void due(WordMaze maze, String moves, int index, int reason, int room) {
        Mazes.type(maze, moves);
        check.due("fault(0) of '" + moves + "'", maze.fault(0), index);
        check.due("fault(1) of '" + moves + "'", maze.fault(1), reason);
        check.due("moved() of '" + moves + "'", maze.moved(), room);
    }

    /** In the goal each reason stands before that of a move too many. */
    private void firstReason() {
        WordMaze maze = Mazes.opened("I");
        maze.goal(27);
        maze.door(27, 1, 0);
        due(maze, "RR", -4, -4, 27);
        due(maze, "RRU", 2, 4, 27);
        due(maze, "RRL", 2, 4, 27);
        due(maze, "RRR", 2, 3, 27);
        due(maze, "RRD", 2, 2, 27);
        due(maze, "RR ", 2, 1, 27);
        due(maze, "RRUU", 2, 4, 27);
    }

    private void characters() {
        for (int code = 32; code <= 126; code++) {
            WordMaze maze = Mazes.opened("I");
            maze.start(27);
            maze.type(code);
            int due = code == 'U' || code == 'R' || code == 'L' ? 5 : code == 'D' ? 2 : 1;
            check.due("fault(1) of the character " + code, maze.fault(1), due);
            int room = code == 'U' ? 22 : code == 'R' ? 28 : code == 'L' ? 26 : 27;
            check.due("moved() of the character " + code, maze.moved(), room);
        }
    }

    private void inTheGoal() {
        WordMaze maze = Mazes.opened("I");
        maze.goal(25);
        due(maze, "", -4, -4, 25);
        due(maze, "R", 0, 4, 25);
        due(maze, "U", 0, 2, 25);
        due(maze, "X", 0, 1, 25);
        maze.door(25, 1, 0);
        due(maze, "R", 0, 3, 25);
    }

    private void longMoves() {
        WordMaze maze = Mazes.opened("I");
        maze.clearText();
        for (int k = 0; k < 100; k++) {
            maze.type('R');
            maze.type('L');
        }
        check.due("fault(0) of 200 moves", maze.fault(0), 200);
        check.due("fault(1) of 200 moves", maze.fault(1), 5);
        check.due("moved() of 200 moves", maze.moved(), 25);
        maze.start(26);
        check.due("moved() of 200 moves from 26", maze.moved(), 26);
        maze.goal(27);
        check.due("fault(0) of 200 moves into the goal", maze.fault(0), 1);
        check.due("fault(1) of 200 moves into the goal", maze.fault(1), 4);
    }

    private void faultErrors() {
        WordMaze maze = Mazes.opened("I");
        maze.goal(25);
        int[] bad = {Integer.MIN_VALUE, -1, 2, Integer.MAX_VALUE};
        for (int what : bad) {
            check.due("fault(" + what + ") without a fault", maze.fault(what), -1);
        }
        maze.goal(2);
        for (int what : bad) {
            check.due("fault(" + what + ") with a fault", maze.fault(what), -1);
        }
    }
}
