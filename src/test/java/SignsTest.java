/** Promises 19 to 24: sign, unsign, points, walk, walked, undo. */
public final class SignsTest {
    private final Check check = new Check("SignsTest");

    public static void main(String[] args) {
        SignsTest test = new SignsTest();
        test.sign();
        test.signErrors();
        test.mostSigns();
        test.unsign();
        test.points();
        test.falseSigns();
        test.walk();
        test.walkWithSigns();
        test.turns();
        test.turnsFromEachDirection();
        test.firstTurn();
        test.signsInForksAlone();
        test.signsThatPointNowhere();
        test.walkedAtItsEnds();
        test.walkErrors();
        test.undo();
        test.undoWords();
        test.check.end();
    }

    private void sign() {
        WordMaze maze = new WordMaze();
        check.due("sign(0, 0, 0)", maze.sign(0, 0, 0), 1);
        check.due("sign(55, 1, 0)", maze.sign(55, 1, 0), 2);
        check.due("sign(65, 2, 3)", maze.sign(65, 2, 3), 3);
        check.due("in place of another one", maze.sign(0, 2, 0), 3);
        check.due("unsign(0) is of the new kind", maze.unsign(0), 2);
        check.due("all these are changes", maze.count(14), 5);
    }

    private void signErrors() {
        WordMaze maze = new WordMaze();
        int[] bad = {Integer.MIN_VALUE, -1, 1, 66, Integer.MAX_VALUE};
        for (int room : bad) {
            check.due("sign(" + room + ", 0, 0)", maze.sign(room, 0, 0), -1);
        }
        int[] badKinds = {Integer.MIN_VALUE, -1, 3, Integer.MAX_VALUE};
        for (int kind : badKinds) {
            check.due("sign(0, " + kind + ", 0)", maze.sign(0, kind, 0), -1);
        }
        int[] badDirections = {Integer.MIN_VALUE, -1, 4, Integer.MAX_VALUE};
        for (int direction : badDirections) {
            check.due("sign(0, 2, " + direction + ")", maze.sign(0, 2, direction), -1);
        }
        for (int direction = 1; direction < 4; direction++) {
            check.due("sign(0, 0, " + direction + ")", maze.sign(0, 0, direction), -1);
            check.due("sign(0, 1, " + direction + ")", maze.sign(0, 1, direction), -1);
            check.due("sign(0, 0, -" + direction + ")", maze.sign(0, 0, -direction), -1);
        }
        check.due("no sign was put", maze.count(12), 0);
        check.due("no change was made", maze.count(14), 0);
    }

    private void mostSigns() {
        WordMaze maze = new WordMaze();
        int put = 0;
        for (int cell = 0; cell < 66 && put < 20; cell++) {
            if (maze.isRoom(cell) == 1) {
                put++;
                check.due("sign number " + put, maze.sign(cell, put % 3, 0), put);
            }
        }
        check.due("sign number 21", maze.sign(65, 0, 0), -3);
        check.due("sign number 21 of no room", maze.sign(66, 0, 0), -1);
        check.due("sign number 21 of no kind", maze.sign(65, 3, 0), -1);
        check.due("sign number 21 of no direction", maze.sign(65, 0, 1), -1);
        check.due("in place of another one", maze.sign(0, 0, 0), 20);
        check.due("signs", maze.count(12), 20);
        check.due("history", maze.count(14), 5);
        check.due("unsign(0)", maze.unsign(0), 0);
        check.due("sign(65, 0, 0) then", maze.sign(65, 0, 0), 20);
        check.due("sign(0, 0, 0) then", maze.sign(0, 0, 0), -3);
    }

    private void unsign() {
        WordMaze maze = new WordMaze();
        maze.sign(0, 0, 0);
        maze.sign(4, 1, 0);
        maze.sign(8, 2, 3);
        check.due("unsign(4)", maze.unsign(4), 1);
        check.due("unsign(4) again", maze.unsign(4), -4);
        check.due("unsign(8)", maze.unsign(8), 2);
        check.due("unsign(0)", maze.unsign(0), 0);
        check.due("unsign(11)", maze.unsign(11), -4);
        check.due("signs", maze.count(12), 0);
        maze.undo();
        check.due("unsign(0) behind undo", maze.unsign(0), 0);
        int[] bad = {Integer.MIN_VALUE, -1, 1, 66, Integer.MAX_VALUE};
        for (int room : bad) {
            check.due("unsign(" + room + ")", maze.unsign(room), -1);
            check.due("points(" + room + ")", maze.points(room), -1);
        }
    }

    private void points() {
        WordMaze maze = Mazes.opened("I");
        check.due("without a sign", maze.points(27), -2);
        maze.sign(27, 0, 0);
        check.due("a true sign", maze.points(27), 0);
        maze.goal(29);
        check.due("a true sign to 29", maze.points(27), 1);
        maze.goal(25);
        check.due("a true sign to 25", maze.points(27), 3);
        maze.goal(27);
        check.due("a true sign in the goal", maze.points(27), -4);
        maze.sign(27, 1, 0);
        check.due("a false sign in the goal", maze.points(27), -4);
        maze.sign(27, 2, 1);
        check.due("a fixed sign in the goal", maze.points(27), 1);
        maze.sign(27, 2, 2);
        check.due("a fixed sign to no room", maze.points(27), -4);
        maze.sign(26, 2, 1);
        check.due("a sign in no fork", maze.points(26), -2);
        check.due("signs that count", maze.count(13), 1);
        maze.sign(27, 0, 0);
        maze.goal(2);
        maze.door(12, 2, 0);
        check.due("a true sign without a way", maze.points(27), -4);
        maze.sign(27, 1, 0);
        check.due("a false sign without a way", maze.points(27), -4);
        maze.sign(27, 2, 3);
        check.due("a fixed sign without a way", maze.points(27), 3);
        maze.door(27, 3, 0);
        check.due("a sign in a fork no more", maze.points(27), -2);
        check.due("signs that count then", maze.count(13), 0);
    }

    /** The door behind the true one, clockwise, in forks with each door missing and in one with all four. */
    private void falseSigns() {
        WordMaze up = Mazes.opened("I");
        up.sign(27, 1, 0);
        check.due("false of up without down", up.points(27), 1);
        up.goal(29);
        check.due("false of right without down", up.points(27), 3);
        up.goal(25);
        check.due("false of left without down", up.points(27), 0);
        WordMaze down = Mazes.opened("T");
        down.sign(2, 1, 0);
        down.goal(0);
        check.due("false of left without up", down.points(2), 1);
        down.goal(4);
        check.due("false of right without up", down.points(2), 2);
        down.goal(29);
        check.due("false of down without up", down.points(2), 3);
        WordMaze left = Mazes.opened("H");
        left.sign(14, 1, 0);
        left.goal(4);
        check.due("false of up without right", left.points(14), 2);
        left.goal(29);
        check.due("false of down without right", left.points(14), 3);
        left.goal(0);
        check.due("false of left without right", left.points(14), 0);
        left.sign(10, 1, 0);
        left.goal(4);
        check.due("false of right without left", left.points(10), 2);
        left.goal(25);
        check.due("false of down without left", left.points(10), 0);
        left.goal(0);
        check.due("false of up without left", left.points(10), 1);
        WordMaze four = Mazes.opened("W");
        four.sign(22, 1, 0);
        four.goal(2);
        check.due("false of up with all four", four.points(22), 1);
        four.goal(24);
        check.due("false of right with all four", four.points(22), 2);
        four.goal(27);
        check.due("false of down with all four", four.points(22), 3);
        four.goal(20);
        check.due("false of left with all four", four.points(22), 0);
    }

    private void walk() {
        WordMaze closed = new WordMaze();
        check.due("walk without a door: room", closed.walk(2000, 0), 55);
        check.due("walk without a door: steps", closed.walk(2000, 1), 0);
        check.due("walk without a door: rooms", closed.walk(2000, 2), 1);
        check.due("walked without a door", closed.walked(), -4);
        WordMaze maze = Mazes.opened("I");
        int[] rooms = {25, 26, 27, 22, 17, 12, 7, 2, 2};
        for (int steps = 0; steps < rooms.length; steps++) {
            check.due("walk(" + steps + ", 0)", maze.walk(steps, 0), rooms[steps]);
            check.due("walk(" + steps + ", 1)", maze.walk(steps, 1), Math.min(steps, 7));
            check.due("walk(" + steps + ", 2)", maze.walk(steps, 2), Math.min(steps, 7) + 1);
        }
        check.due("walk(2000, 1)", maze.walk(2000, 1), 7);
        check.due("walked()", maze.walked(), 7);
        maze.start(2);
        check.due("walked() in the goal", maze.walked(), 0);
        check.due("walk(9, 1) in the goal", maze.walk(9, 1), 0);
        check.due("walk(9, 2) in the goal", maze.walk(9, 2), 1);
        maze.start(25);
        maze.door(2, 2, 0);
        // There and back for ever: 25 to 7 and to 29 in 18 steps.
        check.due("walk(2000, 1) without end", maze.walk(2000, 1), 2000);
        check.due("walk(1999, 1) without end", maze.walk(1999, 1), 1999);
        check.due("walk(2000, 2) without end", maze.walk(2000, 2), 9);
        check.due("walked() without end", maze.walked(), -4);
        check.due("back in the start", maze.walk(16, 0), 25);
        check.due("back in the start", maze.walk(1600, 0), 25);
        check.due("the last step counts", maze.walk(2000, 0), 25);
    }

    private void walkWithSigns() {
        WordMaze maze = Mazes.opened("I");
        maze.goal(29);
        check.due("past the fork by the rule", maze.walked(), 14);
        maze.sign(27, 0, 0);
        check.due("by a true sign", maze.walked(), 4);
        maze.sign(27, 1, 0);
        check.due("by a false sign", maze.walked(), -4);
        check.due("by a false sign: room", maze.walk(4, 0), 25);
        check.due("by a false sign: rooms", maze.walk(2000, 2), 3);
        maze.sign(27, 2, 0);
        check.due("by a fixed sign upward", maze.walk(2000, 2), 8);
        maze.sign(27, 2, 1);
        check.due("by a fixed sign to the right", maze.walked(), 4);
        maze.sign(27, 2, 2);
        check.due("by a fixed sign to no room", maze.walked(), 14);
        maze.sign(27, 2, 3);
        check.due("by a fixed sign back", maze.walk(2000, 2), 3);
        maze.unsign(27);
        maze.sign(26, 2, 3);
        check.due("a sign in no fork", maze.walked(), 14);
        maze.sign(27, 0, 0);
        maze.start(27);
        check.due("a sign in the start", maze.walk(1, 0), 28);
        maze.goal(27);
        check.due("a sign in the goal", maze.walk(9, 1), 0);
    }

    /** The first turn is to the left, as the walker comes from below. */
    private void turns() {
        WordMaze maze = Mazes.opened("H");
        maze.goal(29);
        maze.start(10);
        check.due("at 10 up before right and down", maze.walk(1, 0), 5);
        maze.door(10, 0, 0);
        check.due("at 10 right before down", maze.walk(1, 0), 11);
        maze.door(10, 1, 0);
        check.due("at 10 down at last", maze.walk(1, 0), 15);
        maze.start(14);
        check.due("at 14 left before up and down", maze.walk(1, 0), 13);
        maze.door(14, 3, 0);
        check.due("at 14 up before down", maze.walk(1, 0), 9);
        maze.start(12);
        check.due("coming from the right", maze.walk(2, 0), 12);
        maze.door(11, 1, 0);
        check.due("with one door", maze.walk(1, 0), 13);
    }

    /** The crossing 22 of "W" with its neighbors up, right, down and left. */
    private static final int[] AROUND = {17, 23, 27, 21};

    /** The walker enters the crossing from each direction; its doors are closed in the order in which it takes them. */
    private void turnsFromEachDirection() {
        for (int from = 0; from < 4; from++) {
            WordMaze maze = Mazes.of("W");
            for (int direction = 0; direction < 4; direction++) {
                maze.door(22, direction, 1);
            }
            maze.start(AROUND[from]);
            check.due("into the crossing from " + from, maze.walk(1, 0), 22);
            for (int turn = 1; turn <= 4; turn++) {
                int to = (from + turn) % 4;
                check.due("from " + from + " to the turn " + turn, maze.walk(2, 0), AROUND[to]);
                maze.door(22, to, turn == 4 ? 1 : 0);
            }
            check.due("with one door for ever", maze.walk(2000, 2), 2);
            check.due("with one door, an even step", maze.walk(2000, 0), AROUND[from]);
            check.due("with one door, an odd step", maze.walk(1999, 0), 22);
        }
    }

    /** At the start it comes from below: left, up, right, down. */
    private void firstTurn() {
        WordMaze maze = Mazes.of("W");
        for (int direction = 0; direction < 4; direction++) {
            maze.door(22, direction, 1);
        }
        maze.start(22);
        int[] turns = {3, 0, 1, 2};
        for (int direction : turns) {
            check.due("first step to " + direction, maze.walk(1, 0), AROUND[direction]);
            maze.door(22, direction, 0);
        }
        check.due("without a door: room", maze.walk(1, 0), 22);
        check.due("without a door: steps", maze.walk(2000, 1), 0);
        check.due("without a door: rooms", maze.walk(2000, 2), 1);
        check.due("without a door: walked()", maze.walked(), -4);
        maze.goal(22);
        check.due("without a door in the goal: walked()", maze.walked(), 0);
    }

    /** A sign in a room with 0, 1, 2, 3 and 4 open doors. */
    private void signsInForksAlone() {
        WordMaze maze = Mazes.of("W");
        maze.goal(21);
        maze.start(22);
        for (int kind = 0; kind < 3; kind++) {
            maze.sign(22, kind, kind == 2 ? 3 : 0);
            int due = kind == 1 ? 0 : 3;
            for (int doors = 0; doors <= 4; doors++) {
                if (doors > 0) {
                    maze.door(22, 4 - doors, 1);
                }
                String name = "kind " + kind + " with " + doors + " doors: ";
                int points = doors < 3 ? -2 : doors == 3 && kind == 1 ? 1 : due;
                check.due(name + "points", maze.points(22), points);
                check.due(name + "signs", maze.count(12), 1);
                check.due(name + "signs that count", maze.count(13), doors < 3 ? 0 : 1);
                int step = doors == 0 ? 22 : points < 0 ? 21 : AROUND[points];
                check.due(name + "first step", maze.walk(1, 0), step);
            }
            for (int direction = 0; direction < 4; direction++) {
                maze.door(22, direction, 0);
            }
        }
    }

    /** Where a sign points nowhere, the walker goes by its turns. */
    private void signsThatPointNowhere() {
        for (int kind = 0; kind < 3; kind++) {
            WordMaze maze = Mazes.of("W");
            maze.door(22, 0, 1);
            maze.door(22, 1, 1);
            maze.door(22, 2, 1);
            maze.sign(22, kind, kind == 2 ? 3 : 0);
            maze.start(27);
            check.due("no way to the goal: points", maze.points(22), -4);
            check.due("no way to the goal: second step", maze.walk(2, 0), 17);
            maze.door(22, 0, 0);
            check.due("no fork: points", maze.points(22), -2);
            check.due("no fork: second step", maze.walk(2, 0), 23);
            maze.door(22, 0, 1);
            maze.goal(22);
            check.due("in the goal: points", maze.points(22), -4);
            check.due("in the goal: steps", maze.walk(2000, 1), 1);
            check.due("in the goal: walked()", maze.walked(), 1);
            maze.start(22);
            check.due("the start in the goal: steps", maze.walk(2000, 1), 0);
            check.due("the start in the goal: walked()", maze.walked(), 0);
        }
        WordMaze fixed = Mazes.opened("W");
        fixed.goal(22);
        fixed.sign(22, 2, 1);
        check.due("a fixed one points in the goal too", fixed.points(22), 1);
        check.due("the walker stays in the goal", fixed.walk(2000, 0), 22);
    }

    /** The walk's end: one step before the goal, in it, and behind; the goal 0 is a dead end in each single maze. */
    private void walkedAtItsEnds() {
        WordMaze maze = Mazes.made("WWWWWW", 65535);
        maze.start(209);
        int steps = maze.walked();
        check.due("steps of the last walk", maze.walk(steps, 1), steps);
        check.due("room of the last walk", maze.walk(steps, 0), 0);
        check.due("one step before the goal: room", maze.walk(steps - 1, 0), 35);
        check.due("one step before the goal: steps", maze.walk(steps - 1, 1), steps - 1);
        check.due("one step more: steps", maze.walk(steps + 1, 1), steps);
        check.due("one step more: room", maze.walk(steps + 1, 0), 0);
        check.due("2000 steps", maze.walk(2000, 1), steps);
        check.due("0 steps: room", maze.walk(0, 0), 209);
        check.due("0 steps: steps", maze.walk(0, 1), 0);
        check.due("0 steps: rooms", maze.walk(0, 2), 1);
        // With the goal cut off the walker goes through all other rooms, and through each of the 135 doors twice.
        maze.door(0, 2, 0);
        check.due("walked() without a way", maze.walked(), -4);
        check.due("rooms of a walk without a way", maze.walk(2000, 2), 136);
        check.due("back in the start", maze.walk(270, 0), 209);
        check.due("rooms when back in the start", maze.walk(270, 2), 136);
        check.due("steps of a walk without a way", maze.walk(2000, 1), 2000);
    }

    private void walkErrors() {
        WordMaze maze = Mazes.opened("I");
        int[] bad = {Integer.MIN_VALUE, -1, 2001, Integer.MAX_VALUE};
        for (int steps : bad) {
            check.due("walk(" + steps + ", 0)", maze.walk(steps, 0), -1);
        }
        int[] badWhat = {Integer.MIN_VALUE, -1, 3, Integer.MAX_VALUE};
        for (int what : badWhat) {
            check.due("walk(0, " + what + ")", maze.walk(0, what), -1);
        }
    }

    private void undo() {
        WordMaze maze = new WordMaze();
        check.due("undo() of a new object", maze.undo(), -2);
        maze.door(55, 1, 1);
        maze.start(56);
        maze.goal(57);
        maze.sign(58, 2, 3);
        maze.unsign(58);
        check.due("five states", maze.count(14), 5);
        maze.make(4);
        check.due("still five states", maze.count(14), 5);
        check.due("undo of make", maze.undo(), 4);
        check.due("open doors", maze.count(4), 1);
        check.due("doors(56)", maze.doors(56), 8);
        check.due("undo of unsign", maze.undo(), 3);
        check.due("signs", maze.count(12), 1);
        check.due("undo of sign", maze.undo(), 2);
        check.due("signs", maze.count(12), 0);
        check.due("goal", maze.count(11), 57);
        check.due("undo of goal", maze.undo(), 1);
        check.due("goal", maze.count(11), 0);
        check.due("start", maze.count(10), 56);
        check.due("undo of start", maze.undo(), 0);
        check.due("start", maze.count(10), 55);
        check.due("the door's state was dropped", maze.undo(), -2);
        check.due("doors(55)", maze.doors(55), 2);
        maze.door(55, 1, 1);
        check.due("a change without difference", maze.count(14), 1);
        check.due("undo of it", maze.undo(), 0);
    }

    private void undoWords() {
        WordMaze maze = new WordMaze();
        maze.make(7);
        Mazes.type(maze, "MUW");
        maze.word();
        maze.make(1);
        Mazes.type(maze, "I");
        maze.word();
        check.due("rooms of I", maze.count(2), 10);
        check.due("undo of I", maze.undo(), 3);
        check.due("rooms of MUW", maze.count(2), 64);
        check.due("open doors of MUW", maze.count(4), 63);
        check.due("the text is as before", maze.count(15), 1);
        check.due("isRoom(101)", maze.isRoom(101), 1);
        maze.undo();
        check.due("open doors of MUW", maze.count(4), 0);
        check.due("undo of MUW", maze.undo(), 1);
        check.due("rooms of HI", maze.count(2), 29);
        check.due("letter(1, 0)", maze.letter(1, 0), 'I');
        check.due("letter(2, 0)", maze.letter(2, 0), -4);
        check.due("longest(0) of the seed 7", maze.longest(0), 19);
        check.due("isRoom(66)", maze.isRoom(66), -1);
        check.due("word() of the text", maze.word(), 10);
    }
}
