/**
 * The range of each argument of each call: the least and the greatest value are taken, one below, one above and
 * the extremes of int are INVALID_ARGUMENT, and a refused call is no change.
 */
public final class ArgumentsTest {
    private interface Call {
        int ask(WordMaze maze, int value);
    }

    private final Check check = new Check("ArgumentsTest");

    public static void main(String[] args) {
        ArgumentsTest test = new ArgumentsTest();
        test.cells();
        test.roomsOfCallsWithOne();
        test.roomsOfCallsWithTwo();
        test.seeds();
        test.doorsAndDirections();
        test.letters();
        test.whats();
        test.indices();
        test.signs();
        test.steps();
        test.characters();
        test.check.end();
    }

    /** All doors of the word "I" open, a sign that counts in 27, and a text with a fault. */
    private static WordMaze maze() {
        WordMaze maze = Mazes.opened("I");
        maze.sign(27, 0, 0);
        maze.type('R');
        return maze;
    }

    private void range(String name, Call call, int least, int dueOfLeast, int greatest, int dueOfGreatest) {
        check.due(name + " at its least, " + least, call.ask(maze(), least), dueOfLeast);
        check.due(name + " at its greatest, " + greatest, call.ask(maze(), greatest), dueOfGreatest);
        refused(name, call, least - 1);
        refused(name, call, greatest + 1);
        refused(name, call, Integer.MIN_VALUE);
        refused(name, call, Integer.MAX_VALUE);
    }

    private void refused(String name, Call call, int value) {
        WordMaze maze = maze();
        maze.undo();
        check.due(name + " of " + value, call.ask(maze, value), -1);
        check.due("states behind " + name + " of " + value, maze.count(14), 4);
        check.due("length of the text behind " + name + " of " + value, maze.count(15), 1);
    }

    /** A cell is taken just if the drawing has a room there; the cells around all edges are asked. */
    private void rooms(String name, Call call) {
        for (String word : new String[] {"I", "HI", "TIP", "ACE", "WWWWWW", "SIGHTS"}) {
            WordMaze maze = Mazes.of(word);
            Model model = Mazes.model(word);
            int cells = 6 * model.width();
            for (int cell = -3; cell < cells + 20; cell++) {
                int answer = call.ask(maze, cell);
                String text = name + " of the cell " + cell + " of " + word;
                check.due(text + " is refused", answer == -1 ? 1 : 0, model.room(cell) ? 0 : 1);
            }
            check.due(name + " of the least int", call.ask(maze, Integer.MIN_VALUE), -1);
            check.due(name + " of the greatest int", call.ask(maze, Integer.MAX_VALUE), -1);
        }
    }

    private void cells() {
        range("isRoom: cell", (maze, value) -> maze.isRoom(value), 0, 0, 29, 1);
        WordMaze six = Mazes.of("UUUUUU");
        check.due("isRoom(0) of six letters", six.isRoom(0), 1);
        check.due("isRoom(209) of six letters", six.isRoom(209), 1);
        check.due("isRoom(210) of six letters", six.isRoom(210), -1);
        check.due("isRoom(-1) of six letters", six.isRoom(-1), -1);
        WordMaze hi = new WordMaze();
        check.due("isRoom(65) of HI", hi.isRoom(65), 1);
        check.due("isRoom(66) of HI", hi.isRoom(66), -1);
    }

    private void roomsOfCallsWithOne() {
        rooms("letterOf", (maze, value) -> maze.letterOf(value));
        rooms("door", (maze, value) -> maze.door(value, 2, 1));
        rooms("doors", (maze, value) -> maze.doors(value));
        rooms("part", (maze, value) -> maze.part(value));
        rooms("start", (maze, value) -> maze.start(value));
        rooms("goal", (maze, value) -> maze.goal(value));
        rooms("farthest", (maze, value) -> maze.farthest(value, 1));
        rooms("sign", (maze, value) -> maze.sign(value, 1, 0));
        rooms("unsign", (maze, value) -> maze.unsign(value));
        rooms("points", (maze, value) -> maze.points(value));
    }

    private void roomsOfCallsWithTwo() {
        rooms("distance: a", (maze, value) -> maze.distance(value, maze.count(10)));
        rooms("distance: b", (maze, value) -> maze.distance(maze.count(10), value));
        rooms("again: a", (maze, value) -> maze.again(value, maze.count(10)));
        rooms("again: b", (maze, value) -> maze.again(maze.count(10), value));
        rooms("way: a", (maze, value) -> maze.way(value, maze.count(10), 0));
        rooms("way: b", (maze, value) -> maze.way(maze.count(10), value, 0));
    }

    private void seeds() {
        range("make: seed", (maze, value) -> maze.make(value), 0, 9, 65535, 9);
    }

    private void doorsAndDirections() {
        range("door: direction", (maze, value) -> maze.door(27, value, 0), 0, 1, 3, 1);
        range("door: open", (maze, value) -> maze.door(27, 1, value), 0, 1, 1, 1);
        check.due("door: direction 1", maze().door(27, 1, 0), 1);
        check.due("door: direction 2", maze().door(22, 2, 0), 1);
    }

    private void letters() {
        check.due("letter: letter at its least, 0", maze().letter(0, 0), 'I');
        refused("letter: letter", (maze, value) -> maze.letter(value, 0), -1);
        refused("letter: letter", (maze, value) -> maze.letter(value, 0), Integer.MIN_VALUE);
        check.due("letter: letter behind the only one", maze().letter(1, 0), -4);
        check.due("letter: letter at the greatest int", maze().letter(Integer.MAX_VALUE, 0), -4);
        WordMaze six = Mazes.of("SIGHTS");
        check.due("letter: the last of six", six.letter(5, 0), 'S');
        check.due("letter: behind the last of six", six.letter(6, 0), -4);
        range("letter: what", (maze, value) -> maze.letter(0, value), 0, 'I', 4, 1);
    }

    private void whats() {
        range("count: what", (maze, value) -> maze.count(value), 0, 1, 15, 1);
        range("farthest: what", (maze, value) -> maze.farthest(2, value), 0, 25, 1, 7);
        range("longest: what", (maze, value) -> maze.longest(value), 0, 7, 2, 25);
        check.due("longest: what 1", maze().longest(1), 2);
        range("walk: what", (maze, value) -> maze.walk(3, value), 0, 22, 2, 4);
        check.due("walk: what 1", maze().walk(3, 1), 3);
        range("fault: what", (maze, value) -> maze.fault(value), 0, 1, 1, 5);
    }

    private void indices() {
        check.due("way: index at its least, 0", maze().way(25, 2, 0), 25);
        check.due("way: index of the last room", maze().way(25, 2, 7), 2);
        check.due("way: index behind the last room", maze().way(25, 2, 8), -4);
        check.due("way: index at the greatest int", maze().way(25, 2, Integer.MAX_VALUE), -4);
        refused("way: index", (maze, value) -> maze.way(25, 2, value), -1);
        refused("way: index", (maze, value) -> maze.way(25, 2, value), Integer.MIN_VALUE);
    }

    private void signs() {
        range("sign: kind", (maze, value) -> maze.sign(26, value, 0), 0, 2, 2, 2);
        range("sign: direction of a true one", (maze, value) -> maze.sign(26, 0, value), 0, 2, 0, 2);
        range("sign: direction of a false one", (maze, value) -> maze.sign(26, 1, value), 0, 2, 0, 2);
        range("sign: direction of a fixed one", (maze, value) -> maze.sign(26, 2, value), 0, 2, 3, 2);
        for (int direction = 0; direction < 4; direction++) {
            check.due("sign(26, 2, " + direction + ")", maze().sign(26, 2, direction), 2);
            if (direction > 0) {
                refused("sign: direction of a true one", (maze, value) -> maze.sign(26, 0, value), direction);
                refused("sign: direction of a false one", (maze, value) -> maze.sign(26, 1, value), direction);
            }
        }
    }

    private void steps() {
        range("walk: steps", (maze, value) -> maze.walk(value, 1), 0, 0, 2000, 7);
        WordMaze endless = maze();
        endless.door(2, 2, 0);
        check.due("walk: 1999 steps without end", endless.walk(1999, 1), 1999);
        check.due("walk: 2000 steps without end", endless.walk(2000, 1), 2000);
        check.due("walk: 2001 steps without end", endless.walk(2001, 1), -1);
    }

    private void characters() {
        range("type: character", (maze, value) -> maze.type(value), 32, 2, 126, 2);
        for (int code = 32; code <= 126; code++) {
            check.due("type(" + code + ")", maze().type(code), 2);
        }
    }
}
