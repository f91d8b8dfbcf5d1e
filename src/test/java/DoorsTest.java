import java.util.HashSet;
import java.util.Set;

/** Promises 6 to 10: make, door, doors, count, part. */
public final class DoorsTest {
    private final Check check = new Check("DoorsTest");

    public static void main(String[] args) {
        DoorsTest test = new DoorsTest();
        test.made("HI", 0, 29, 29, new int[][] {{44, 55}});
        test.made("HI", 65535, 29, 29, new int[][] {{23, 24}});
        test.made("L", 1, 14, 17, new int[][] {{21, 22}, {23, 24}, {25, 26}, {27, 28}});
        test.made("O", 12345, 21, 25, new int[][] {{5, 10}, {20, 21}, {21, 22}, {22, 27}, {28, 29}});
        test.made("GE", 300, 44, 51, new int[][] {{44, 45}, {46, 57}, {48, 59}, {50, 51}, {52, 63}, {54, 65},
            {57, 58}, {63, 64}});
        test.made("SSSSSS", 65535, 137, 160, new int[][] {{140, 141}, {142, 143}, {144, 179}, {148, 183}, {153, 188},
            {154, 155}, {154, 189}, {156, 191}, {158, 193}, {159, 160}, {161, 162}, {164, 199}, {166, 201},
            {168, 203}, {171, 172}, {172, 173}, {173, 208}, {176, 177}, {181, 182}, {182, 183}, {184, 185},
            {195, 196}, {201, 202}, {205, 206}});
        test.makeAgain();
        test.manyMakes();
        test.makeErrors();
        test.door();
        test.neighbors();
        test.closedAtFirst();
        test.leastAndMostDoors();
        test.openedFromNumbers();
        test.doorErrors();
        test.doorsErrors();
        test.count();
        test.part();
        test.check.end();
    }

    /** The doors that stay closed were found by another program. */
    private void made(String word, int seed, int rooms, int doors, int[][] closed) {
        WordMaze maze = Mazes.of(word);
        String name = word + " made from " + seed + ": ";
        check.due(name + "make", maze.make(seed), rooms - 1);
        check.due(name + "doors", maze.count(3), doors);
        check.due(name + "open doors", maze.count(4), rooms - 1);
        check.due(name + "parts", maze.count(5), 1);
        check.due(name + "loops", maze.count(6), 0);
        check.due(name + "single", maze.count(7), 1);
        Set<String> shut = new HashSet<>();
        for (int[] door : closed) {
            shut.add(door[0] + " " + door[1]);
        }
        Model model = Mazes.model(word);
        for (int cell : model.rooms()) {
            int due = 0;
            for (int direction = 0; direction < 4; direction++) {
                int other = model.next(cell, direction);
                if (other >= 0 && !shut.contains(Math.min(cell, other) + " " + Math.max(cell, other))) {
                    due |= 1 << direction;
                }
            }
            check.due(name + "doors(" + cell + ")", maze.doors(cell), due);
        }
    }

    private void makeAgain() {
        WordMaze maze = Mazes.opened("O");
        maze.sign(0, 2, 1);
        maze.start(3);
        maze.goal(20);
        check.due("make of an open O", maze.make(12345), 20);
        check.due("door 5 to 10 is closed again", maze.doors(5), 1);
        check.due("signs stay", maze.count(12), 1);
        check.due("start stays", maze.count(10), 3);
        check.due("goal stays", maze.count(11), 20);
        check.due("make of a single room's seed", Mazes.of("I").make(0), 9);
    }

    /** What a seed opens does not hang on what was open, or made, before. */
    private void manyMakes() {
        WordMaze maze = Mazes.of("ACE");
        int[] seeds = {65535, 1, 40000, 0, 2, 40000, 40000};
        for (int seed : seeds) {
            WordMaze once = Mazes.made("ACE", seed);
            check.due("make(" + seed + ") behind others", maze.make(seed), once.count(2) - 1);
            for (int room : Mazes.model("ACE").rooms()) {
                check.due("doors(" + room + ") behind make(" + seed + ")", maze.doors(room), once.doors(room));
            }
        }
    }

    private void makeErrors() {
        WordMaze maze = new WordMaze();
        int[] bad = {Integer.MIN_VALUE, -1, 65536, 65537, Integer.MAX_VALUE};
        for (int seed : bad) {
            check.due("make(" + seed + ")", maze.make(seed), -1);
        }
        check.due("open doors behind errors", maze.count(4), 0);
        check.due("history behind errors", maze.count(14), 0);
    }

    private void door() {
        WordMaze maze = new WordMaze();
        check.due("open 22 right", maze.door(22, 1, 1), 0);
        check.due("open it again", maze.door(22, 1, 1), 1);
        check.due("doors(22)", maze.doors(22), 2);
        check.due("doors(23)", maze.doors(23), 8);
        check.due("open 22 up", maze.door(22, 0, 1), 0);
        check.due("doors(22)", maze.doors(22), 3);
        check.due("doors(11)", maze.doors(11), 4);
        check.due("open 22 down", maze.door(22, 2, 1), 0);
        check.due("doors(22)", maze.doors(22), 7);
        check.due("doors(33)", maze.doors(33), 1);
        check.due("close 23 left", maze.door(23, 3, 0), 1);
        check.due("doors(22)", maze.doors(22), 5);
        check.due("close it again", maze.door(23, 3, 0), 0);
        check.due("all these are changes", maze.count(14), 5);
        check.due("open 58 left", maze.door(58, 3, 1), 0);
        check.due("doors(57)", maze.doors(57), 2);
        check.due("open 59 up", maze.door(59, 0, 1), 0);
        check.due("doors(48)", maze.doors(48), 4);
    }

    /** There is a door just to the rooms that are next: not across a gap, nor from one row's end to the next row. */
    private void neighbors() {
        for (String word : new String[] {"H", "HI", "OOOOOO", "SCMEPU", "TWGLAF"}) {
            Model model = Mazes.model(word);
            for (int direction = 0; direction < 4; direction++) {
                WordMaze maze = Mazes.of(word);
                for (int room : model.rooms()) {
                    int due = model.next(room, direction) < 0 ? -4 : 0;
                    check.due("door(" + room + ", " + direction + ", 1) of " + word, maze.door(room, direction, 1), due);
                }
            }
        }
        WordMaze wide = Mazes.of("HHHHHH");
        check.due("right from the last column into the next row", wide.door(34, 1, 1), -4);
        check.due("left from the first column into the row above", wide.door(35, 3, 1), -4);
        check.due("right from the last column of the row 4", wide.door(174, 1, 1), -4);
        check.due("left from the first cell of the base row", wide.door(175, 3, 1), -4);
        check.due("right from the last cell", wide.door(209, 1, 1), -4);
        check.due("down from the last cell", wide.door(209, 2, 1), -4);
        check.due("up from the first cell", wide.door(0, 0, 1), -4);
        check.due("left from the first cell", wide.door(0, 3, 1), -4);
        check.due("no door was opened", wide.count(4), 0);
        WordMaze beside = Mazes.of("EE");
        check.due("right from a letter to the next one", beside.door(4, 1, 1), -4);
        check.due("left from a letter to the one before", beside.door(6, 3, 1), -4);
        check.due("from a letter down to the base row", beside.door(48, 2, 1), 0);
        check.due("from the base row up to the letter", beside.door(59, 0, 1), 1);
        check.due("along the base row below the gap", beside.door(59, 1, 1), 0);
    }

    private void closedAtFirst() {
        for (String word : new String[] {"H", "OUT", "WWWWWW"}) {
            WordMaze maze = Mazes.made(word, 8);
            Mazes.type(maze, word);
            maze.word();
            check.due("open doors of the new " + word, maze.count(4), 0);
            for (int room : Mazes.model(word).rooms()) {
                check.due("doors(" + room + ") of the new " + word, maze.doors(room), 0);
            }
        }
    }

    private void leastAndMostDoors() {
        for (String word : new String[] {"I", "O", "HI", "AE", "WAM", "OOOOOO"}) {
            Model model = Mazes.model(word);
            int rooms = model.rooms().size();
            int doors = model.allDoors().size();
            WordMaze closed = Mazes.of(word);
            check.due("parts of the closed " + word, closed.count(5), rooms);
            check.due("loops of the closed " + word, closed.count(6), 0);
            check.due("the closed " + word + " is single", closed.count(7), 0);
            check.due("dead ends of the closed " + word, closed.count(8), 0);
            check.due("forks of the closed " + word, closed.count(9), 0);
            check.due("the last room's part in the closed " + word, closed.part(6 * model.width() - 1), rooms - 1);
            WordMaze open = Mazes.opened(word);
            check.due("open doors of the open " + word, open.count(4), doors);
            check.due("parts of the open " + word, open.count(5), 1);
            check.due("loops of the open " + word, open.count(6), doors - rooms + 1);
            check.due("the open " + word + " is single", open.count(7), doors == rooms - 1 ? 1 : 0);
            check.due("the last room's part in the open " + word, open.part(6 * model.width() - 1), 0);
            check.due("make of the open " + word, open.make(77), rooms - 1);
            check.due("single behind make of " + word, open.count(7), 1);
        }
    }

    /** The doors of "L", written out by their numbers, in the row that the greatest seed gives. */
    private void openedFromNumbers() {
        long z = 65535;
        int[][] doors = {
            {0, 5}, {5, 10}, {10, 15}, {15, 20}, {20, 21}, {20, 25}, {21, 22}, {21, 26}, {22, 23}, {22, 27}, {23, 24},
            {23, 28}, {24, 29}, {25, 26}, {26, 27}, {27, 28}, {28, 29}
        };
        check.due("doors of L", Mazes.of("L").count(3), doors.length);
        for (int k = doors.length - 1; k >= 1; k--) {
            z = (75 * z + 74) % 65537;
            int[] kept = doors[k];
            doors[k] = doors[(int) (z % (k + 1))];
            doors[(int) (z % (k + 1))] = kept;
        }
        int[] part = new int[30];
        for (int cell = 0; cell < 30; cell++) {
            part[cell] = cell;
        }
        WordMaze maze = Mazes.made("L", 65535);
        for (int[] door : doors) {
            int gone = part[door[0]];
            boolean opened = gone != part[door[1]];
            for (int cell = 0; cell < 30; cell++) {
                part[cell] = part[cell] == gone ? part[door[1]] : part[cell];
            }
            int direction = door[1] - door[0] == 1 ? 1 : 2;
            check.due("door " + door[0] + " to " + door[1], maze.doors(door[0]) >> direction & 1, opened ? 1 : 0);
        }
    }

    private void doorErrors() {
        WordMaze maze = new WordMaze();
        check.due("door of no room", maze.door(1, 1, 1), -1);
        check.due("door of room -1", maze.door(-1, 1, 1), -1);
        check.due("door of room 66", maze.door(66, 0, 1), -1);
        check.due("door of the least room", maze.door(Integer.MIN_VALUE, 1, 1), -1);
        check.due("door of the largest room", maze.door(Integer.MAX_VALUE, 1, 1), -1);
        int[] bad = {Integer.MIN_VALUE, -1, 4, 5, 32, Integer.MAX_VALUE};
        for (int direction : bad) {
            check.due("door(22, " + direction + ", 1)", maze.door(22, direction, 1), -1);
        }
        int[] badOpen = {Integer.MIN_VALUE, -1, 2, Integer.MAX_VALUE};
        for (int open : badOpen) {
            check.due("door(22, 1, " + open + ")", maze.door(22, 1, open), -1);
            check.due("door(0, 0, " + open + ")", maze.door(0, 0, open), -1);
        }
        check.due("up from the highest row", maze.door(0, 0, 1), -4);
        check.due("left from the first column", maze.door(22, 3, 1), -4);
        check.due("down from the base row", maze.door(55, 2, 1), -4);
        check.due("right from the last column", maze.door(65, 1, 1), -4);
        check.due("left from the base row's first cell", maze.door(55, 3, 0), -4);
        check.due("right into the gap", maze.door(26, 1, 1), -4);
        check.due("up from the base row into the gap", maze.door(60, 0, 1), -4);
        check.due("history behind errors", maze.count(14), 0);
        WordMaze one = Mazes.of("O");
        check.due("right across the edge", one.door(4, 1, 1), -4);
        check.due("left across the edge", one.door(5, 3, 1), -4);
        check.due("right across the edge above the base row", one.door(24, 1, 1), -4);
        check.due("left across the edge in the base row", one.door(25, 3, 1), -4);
    }

    private void doorsErrors() {
        WordMaze maze = new WordMaze();
        int[] bad = {Integer.MIN_VALUE, -1, 1, 66, 209, 210, Integer.MAX_VALUE};
        for (int room : bad) {
            check.due("doors(" + room + ")", maze.doors(room), -1);
            check.due("part(" + room + ")", maze.part(room), -1);
        }
        check.due("doors without left", Mazes.opened("H").doors(10), 7);
        check.due("doors without right", Mazes.opened("H").doors(14), 13);
        check.due("doors without up", Mazes.opened("T").doors(2), 14);
        check.due("doors without down", Mazes.opened("I").doors(27), 11);
        check.due("all four doors", Mazes.opened("W").doors(22), 15);
    }

    private void count() {
        WordMaze maze = Mazes.opened("O");
        int[] due = {1, 5, 21, 25, 25, 1, 5, 0, 0, 8, 25, 0, 0, 0, 5, 0};
        for (int what = 0; what < due.length; what++) {
            check.due("count(" + what + ") of the open O", maze.count(what), due[what]);
        }
        maze.sign(20, 0, 0);
        maze.sign(0, 0, 0);
        check.due("signs", maze.count(12), 2);
        check.due("signs that count", maze.count(13), 1);
        maze.type('U');
        maze.type('U');
        maze.type('U');
        check.due("length of the text", maze.count(15), 3);
        WordMaze cross = Mazes.of("O");
        cross.door(26, 3, 1);
        cross.door(26, 0, 1);
        check.due("dead ends with two doors", cross.count(8), 2);
        check.due("forks with two doors", cross.count(9), 0);
        cross.door(26, 1, 1);
        check.due("forks with three doors", cross.count(9), 1);
        check.due("dead ends with three doors", cross.count(8), 3);
        check.due("parts with three doors", cross.count(5), 18);
        WordMaze four = Mazes.of("W");
        for (int direction = 0; direction < 4; direction++) {
            four.door(22, direction, 1);
        }
        check.due("forks with four doors", four.count(9), 1);
        check.due("dead ends with four doors", four.count(8), 4);
        four.door(0, 2, 1);
        check.due("a dead end in the cell 0", four.count(8), 6);
        twoPartsAndLoop();
        int[] bad = {Integer.MIN_VALUE, -1, 16, Integer.MAX_VALUE};
        for (int what : bad) {
            check.due("count(" + what + ")", maze.count(what), -1);
        }
    }

    /** As many open doors as a single maze has, but with a loop and a part that is cut off. */
    private void twoPartsAndLoop() {
        WordMaze maze = new WordMaze();
        maze.make(0);
        maze.door(44, 2, 1);
        maze.door(8, 2, 0);
        check.due("open doors", maze.count(4), 28);
        check.due("parts", maze.count(5), 2);
        check.due("loops", maze.count(6), 1);
        check.due("single", maze.count(7), 0);
        maze.door(44, 2, 0);
        check.due("single with two parts", maze.count(7), 0);
        check.due("loops with two parts", maze.count(6), 0);
        maze.door(44, 2, 1);
        maze.door(8, 2, 1);
        check.due("single with a loop", maze.count(7), 0);
        maze.door(44, 2, 0);
        check.due("single again", maze.count(7), 1);
    }

    private void part() {
        WordMaze maze = new WordMaze();
        check.due("part(0)", maze.part(0), 0);
        check.due("part(4)", maze.part(4), 1);
        check.due("part(8)", maze.part(8), 2);
        check.due("part(11)", maze.part(11), 3);
        check.due("part(65)", maze.part(65), 28);
        maze.door(64, 1, 1);
        check.due("part(65) of 64", maze.part(65), 27);
        maze.door(8, 2, 1);
        check.due("part(19) of 8", maze.part(19), 2);
        check.due("part(65)", maze.part(65), 26);
        maze.make(9);
        check.due("part(65) of one part", maze.part(65), 0);
        check.due("part(0) of one part", maze.part(0), 0);
    }
}
