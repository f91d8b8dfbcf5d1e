import java.util.ArrayList;
import java.util.List;

/** A call that returns an error changes nothing, and of several errors the first one is told. */
public final class ErrorsTest {
    private interface Call {
        int ask(WordMaze maze);
    }

    private interface Kind {
        WordMaze make();
    }

    private final Check check = new Check("ErrorsTest");

    public static void main(String[] args) {
        ErrorsTest test = new ErrorsTest();
        test.fresh();
        test.full();
        test.fullSingle();
        test.few();
        test.orderOfTwo();
        test.orderOfThree();
        test.check.end();
    }

    /**
     * The word "HI" with 20 signs, five states, 200 characters, each of them a move that is possible, and, if it is
     * not to be single, a door less.
     */
    private static WordMaze busy(boolean single) {
        WordMaze maze = new WordMaze();
        int signs = 0;
        for (int room : Mazes.model("HI").rooms()) {
            if (signs < 20) {
                signs = maze.sign(room, signs % 3, signs % 3 == 2 ? signs % 4 : 0);
            }
        }
        maze.make(4711);
        if (!single) {
            maze.door(0, 2, 0);
        }
        maze.start(65);
        maze.goal(22);
        for (int k = 0; k < 200; k++) {
            maze.type("LR".charAt(k % 2));
        }
        return maze;
    }

    /** The word "I" with four states, one sign, and a text that is a word. */
    private static WordMaze small() {
        WordMaze maze = new WordMaze();
        Mazes.type(maze, "I");
        maze.word();
        maze.make(0);
        maze.goal(29);
        maze.sign(27, 2, 0);
        maze.start(26);
        maze.undo();
        maze.undo();
        maze.sign(27, 1, 0);
        return maze;
    }

    /** All answers of a maze, with those that changes give at its end; some 200 calls. */
    private static List<Integer> answers(WordMaze maze) {
        List<Integer> found = new ArrayList<>();
        for (int what = 0; what < 16; what++) {
            found.add(maze.count(what));
        }
        List<Integer> rooms = new ArrayList<>();
        for (int cell = 0; cell < 66; cell++) {
            if (maze.isRoom(cell) == 1) {
                rooms.add(cell);
                found.add(maze.doors(cell));
                found.add(maze.points(cell));
            }
        }
        found.addAll(rooms);
        found.add(maze.letter(0, 0));
        found.add(maze.letter(1, 0));
        found.add(maze.fault(0));
        found.add(maze.fault(1));
        found.add(maze.moved());
        found.add(maze.grade());
        found.add(maze.longest(0));
        found.add(maze.walk(2000, 2));
        for (int room : rooms) {
            found.add(maze.unsign(room));
        }
        found.add(maze.word());
        found.add(maze.letter(0, 0));
        return found;
    }

    /** The error is due, and behind it and up to five undos all is as in a maze without this call. */
    private void error(String name, Kind kind, int due, Call call) {
        for (int undos = 0; undos <= 5; undos++) {
            WordMaze maze = kind.make();
            WordMaze twin = kind.make();
            check.due(name, call.ask(maze), due);
            for (int k = 0; k < undos; k++) {
                check.due("undo() behind " + name, maze.undo(), twin.undo());
            }
            boolean same = answers(maze).equals(answers(twin));
            check.due("all is as before, behind " + name + " and " + undos + " undos", same ? 1 : 0, 1);
        }
    }

    /** The cell 1 and the cells from 66 on are no rooms in "HI", nor in "I". */
    private void invalidArguments(String name, Kind kind) {
        for (int room : new int[] {Integer.MIN_VALUE, -1, 1, 66, Integer.MAX_VALUE}) {
            error(name + "letterOf", kind, -1, maze -> maze.letterOf(room));
            error(name + "door", kind, -1, maze -> maze.door(room, 1, 1));
            error(name + "doors", kind, -1, maze -> maze.doors(room));
            error(name + "part", kind, -1, maze -> maze.part(room));
            error(name + "start", kind, -1, maze -> maze.start(room));
            error(name + "goal", kind, -1, maze -> maze.goal(room));
            error(name + "distance", kind, -1, maze -> maze.distance(room, 22));
            error(name + "again", kind, -1, maze -> maze.again(22, room));
            error(name + "way", kind, -1, maze -> maze.way(room, 22, 0));
            error(name + "farthest", kind, -1, maze -> maze.farthest(room, 0));
            error(name + "sign", kind, -1, maze -> maze.sign(room, 0, 0));
            error(name + "unsign", kind, -1, maze -> maze.unsign(room));
            error(name + "points", kind, -1, maze -> maze.points(room));
        }
        for (int what : new int[] {-1, 16}) {
            error(name + "letter: what", kind, -1, maze -> maze.letter(0, what));
            error(name + "count: what", kind, -1, maze -> maze.count(what));
            error(name + "farthest: what", kind, -1, maze -> maze.farthest(22, what));
            error(name + "longest: what", kind, -1, maze -> maze.longest(what));
            error(name + "walk: what", kind, -1, maze -> maze.walk(9, what));
            error(name + "fault: what", kind, -1, maze -> maze.fault(what));
            error(name + "door: direction", kind, -1, maze -> maze.door(22, what, 1));
            error(name + "door: open", kind, -1, maze -> maze.door(22, 0, what));
            error(name + "sign: kind", kind, -1, maze -> maze.sign(22, what, 0));
            error(name + "sign: direction", kind, -1, maze -> maze.sign(22, 0, what));
            error(name + "sign: own direction", kind, -1, maze -> maze.sign(22, 2, what));
            error(name + "type", kind, -1, maze -> maze.type(what));
        }
        error(name + "letter: letter", kind, -1, maze -> maze.letter(-1, 0));
        error(name + "isRoom", kind, -1, maze -> maze.isRoom(-1));
        error(name + "isRoom", kind, -1, maze -> maze.isRoom(66));
        error(name + "make", kind, -1, maze -> maze.make(-1));
        error(name + "make", kind, -1, maze -> maze.make(65536));
        error(name + "way: index", kind, -1, maze -> maze.way(22, 22, -1));
        error(name + "walk: steps", kind, -1, maze -> maze.walk(-1, 0));
        error(name + "walk: steps", kind, -1, maze -> maze.walk(2001, 0));
        error(name + "type", kind, -1, maze -> maze.type(127));
    }

    private void fresh() {
        Kind kind = WordMaze::new;
        invalidArguments("fresh: ", kind);
        error("fresh: word", kind, -2, maze -> maze.word());
        error("fresh: letterOf", kind, -4, maze -> maze.letterOf(55));
        error("fresh: letter", kind, -4, maze -> maze.letter(2, 0));
        error("fresh: door", kind, -4, maze -> maze.door(55, 2, 1));
        error("fresh: distance", kind, -4, maze -> maze.distance(55, 0));
        error("fresh: again", kind, -2, maze -> maze.again(55, 55));
        error("fresh: way", kind, -4, maze -> maze.way(55, 0, 0));
        error("fresh: way", kind, -4, maze -> maze.way(55, 55, 1));
        error("fresh: grade", kind, -4, maze -> maze.grade());
        error("fresh: unsign", kind, -4, maze -> maze.unsign(55));
        error("fresh: points", kind, -2, maze -> maze.points(55));
        error("fresh: walked", kind, -4, maze -> maze.walked());
        error("fresh: undo", kind, -2, maze -> maze.undo());
    }

    private void full() {
        Kind kind = () -> busy(false);
        invalidArguments("full: ", kind);
        error("full: word", kind, -2, maze -> maze.word());
        error("full: letter", kind, -4, maze -> maze.letter(2, 0));
        error("full: door", kind, -4, maze -> maze.door(0, 0, 1));
        error("full: distance", kind, -4, maze -> maze.distance(65, 0));
        error("full: again", kind, -2, maze -> maze.again(65, 0));
        error("full: way", kind, -4, maze -> maze.way(65, 0, 0));
        error("full: sign", kind, -3, maze -> maze.sign(65, 0, 0));
        error("full: unsign", kind, -4, maze -> maze.unsign(65));
        error("full: points", kind, -2, maze -> maze.points(65));
        for (int character : new int[] {'U', 'R', 'D', 'L', ' ', '~'}) {
            error("full: type", kind, -3, maze -> maze.type(character));
        }
    }

    private void fullSingle() {
        Kind kind = () -> busy(true);
        error("full single: word", kind, -2, maze -> maze.word());
        error("full single: door", kind, -4, maze -> maze.door(65, 2, 0));
        error("full single: way", kind, -4, maze -> maze.way(65, 0, 100));
        error("full single: sign", kind, -3, maze -> maze.sign(65, 1, 0));
        error("full single: unsign", kind, -4, maze -> maze.unsign(64));
        error("full single: type", kind, -3, maze -> maze.type(' '));
        check.due("full single: again", busy(true).again(65, 65), 0);
    }

    private void few() {
        Kind kind = ErrorsTest::small;
        check.due("few: states", small().count(14), 4);
        check.due("full: states", busy(false).count(14), 5);
        check.due("full: moves", busy(false).fault(0), 200);
        check.due("full single: moves", busy(true).fault(0), 200);
        error("few: letter", kind, -4, maze -> maze.letter(1, 4));
        error("few: letterOf", kind, -4, maze -> maze.letterOf(29));
        error("few: isRoom", kind, -1, maze -> maze.isRoom(30));
        error("few: door", kind, -4, maze -> maze.door(22, 1, 1));
        error("few: way", kind, -4, maze -> maze.way(25, 29, 5));
        error("few: unsign", kind, -4, maze -> maze.unsign(25));
        error("few: points", kind, -2, maze -> maze.points(26));
        error("few: walked", kind, -4, maze -> maze.walked());
        error("few: type", kind, -1, maze -> maze.type(31));
        error("few: make", kind, -1, maze -> maze.make(65536));
    }

    /** Two errors that can apply to one call. */
    private void orderOfTwo() {
        WordMaze maze = busy(false);
        check.due("letter: what ahead of too many letters", maze.letter(2, 5), -1);
        check.due("letter: what below ahead of too many letters", maze.letter(2, -1), -1);
        check.due("letter: two invalid ones", maze.letter(-1, 5), -1);
        check.due("door: open ahead of no room there", maze.door(0, 0, 2), -1);
        check.due("door: open below ahead of no room there", maze.door(0, 0, -1), -1);
        check.due("door: no room ahead of no room there", maze.door(1, 0, 1), -1);
        check.due("again: no room a ahead of not single", maze.again(1, 0), -1);
        check.due("again: no room b ahead of not single", maze.again(0, 1), -1);
        check.due("distance: no room a ahead of no way", maze.distance(1, 65), -1);
        check.due("distance: no room b ahead of no way", maze.distance(0, 1), -1);
        check.due("way: index ahead of no way", maze.way(0, 65, -1), -1);
        check.due("way: no room a ahead of no way", maze.way(1, 65, 0), -1);
        check.due("way: no room b ahead of too few rooms", maze.way(0, 1, 999), -1);
        check.due("sign: no room ahead of the limit", maze.sign(66, 0, 0), -1);
        check.due("sign: kind ahead of the limit", maze.sign(65, 3, 0), -1);
        check.due("sign: kind below ahead of the limit", maze.sign(65, -1, 0), -1);
        check.due("sign: direction of a true one ahead of the limit", maze.sign(65, 0, 1), -1);
        check.due("sign: direction of a false one ahead of the limit", maze.sign(65, 1, 1), -1);
        check.due("sign: direction of a fixed one ahead of the limit", maze.sign(65, 2, 4), -1);
        check.due("unsign: no room ahead of no sign", maze.unsign(1), -1);
        check.due("points: no room ahead of no sign", maze.points(1), -1);
        check.due("points: no sign ahead of nowhere", maze.points(65), -2);
        check.due("type: below the least ahead of the limit", maze.type(31), -1);
        check.due("type: above the greatest ahead of the limit", maze.type(127), -1);
        WordMaze closed = new WordMaze();
        closed.sign(22, 2, 0);
        check.due("points: does not count ahead of nowhere", closed.points(22), -2);
        closed.sign(22, 0, 0);
        check.due("points: does not count ahead of no way", closed.points(22), -2);
        closed.goal(55);
        check.due("fault: what ahead of no fault", closed.fault(2), -1);
        check.due("fault: what below ahead of no fault", closed.fault(-1), -1);
        check.due("no fault", closed.fault(0), -4);
    }

    private void orderOfThree() {
        WordMaze maze = busy(false);
        check.due("door: all three invalid", maze.door(1, 4, 2), -1);
        check.due("way: all three invalid", maze.way(1, 66, -1), -1);
        check.due("sign: all three invalid", maze.sign(1, 3, 4), -1);
        check.due("farthest: both invalid", maze.farthest(1, 2), -1);
        check.due("walk: both invalid", maze.walk(2001, 3), -1);
        check.due("distance: both invalid", maze.distance(1, 66), -1);
        check.due("again: both invalid", maze.again(1, 66), -1);
    }
}
