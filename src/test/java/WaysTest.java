/** Promises 11 to 18: start, goal, distance, again, way, farthest, longest, grade. */
public final class WaysTest {
    private final Check check = new Check("WaysTest");

    public static void main(String[] args) {
        WaysTest test = new WaysTest();
        test.startAndGoal();
        test.distance();
        test.again();
        test.way();
        test.wayAmongSeveral();
        test.farthest();
        test.longest();
        test.grade();
        test.gradeSteps();
        test.eachGrade();
        test.roomsAreAsked();
        test.check.end();
    }

    private void startAndGoal() {
        WordMaze maze = new WordMaze();
        check.due("start(8)", maze.start(8), 55);
        check.due("start(65)", maze.start(65), 8);
        check.due("start(65) again", maze.start(65), 65);
        check.due("count(10)", maze.count(10), 65);
        check.due("the goal is as before", maze.count(11), 0);
        check.due("goal(52)", maze.goal(52), 0);
        check.due("goal(65)", maze.goal(65), 52);
        check.due("count(11)", maze.count(11), 65);
        check.due("the start is as before", maze.count(10), 65);
        check.due("all these are changes", maze.count(14), 5);
        maze.undo();
        check.due("goal behind undo", maze.count(11), 52);
    }

    private void distance() {
        WordMaze maze = Mazes.opened("I");
        check.due("distance(2, 25)", maze.distance(2, 25), 7);
        check.due("distance(25, 2)", maze.distance(25, 2), 7);
        check.due("distance(25, 29)", maze.distance(25, 29), 4);
        check.due("distance(7, 7)", maze.distance(7, 7), 0);
        maze.door(17, 2, 0);
        check.due("distance(2, 17)", maze.distance(2, 17), 3);
        check.due("distance(2, 22)", maze.distance(2, 22), -4);
        check.due("distance(22, 17)", maze.distance(22, 17), -4);
        WordMaze round = Mazes.opened("O");
        check.due("the shorter one of two ways", round.distance(0, 24), 8);
        check.due("through the base row", round.distance(20, 29), 5);
        round.door(5, 2, 0);
        check.due("the longer one of two ways", round.distance(5, 10), 15);
    }

    private void again() {
        WordMaze maze = new WordMaze();
        check.due("again of closed doors", maze.again(0, 55), -2);
        check.due("again of one room with closed doors", maze.again(0, 0), -2);
        for (int seed = 0; seed < 20; seed++) {
            WordMaze made = Mazes.made("HI", seed);
            for (int a : Mazes.model("HI").rooms()) {
                check.due("again(" + a + ", 8)", made.again(a, 8), made.distance(a, 8));
                check.due("again(60, " + a + ")", made.again(60, a), made.distance(60, a));
            }
        }
        WordMaze tree = Mazes.opened("I");
        check.due("again(25, 29)", tree.again(25, 29), 4);
        check.due("again(2, 29)", tree.again(2, 29), 7);
        check.due("again(29, 2)", tree.again(29, 2), 7);
        check.due("again(22, 22)", tree.again(22, 22), 0);
        tree.door(25, 1, 0);
        check.due("again with a part cut off", tree.again(2, 29), -2);
        WordMaze round = Mazes.opened("O");
        check.due("again with loops", round.again(0, 1), -2);
        check.due("again with loops and no room", round.again(0, 6), -1);
        check.due("again with no room and loops", round.again(6, 0), -1);
    }

    private void way() {
        WordMaze maze = Mazes.opened("I");
        int[] due = {25, 26, 27, 22, 17, 12, 7, 2};
        for (int index = 0; index < due.length; index++) {
            check.due("way(25, 2, " + index + ")", maze.way(25, 2, index), due[index]);
            check.due("way(2, 25, " + index + ")", maze.way(2, 25, index), due[due.length - 1 - index]);
        }
        check.due("way(25, 2, 8)", maze.way(25, 2, 8), -4);
        check.due("way(25, 2, MAX)", maze.way(25, 2, Integer.MAX_VALUE), -4);
        check.due("way(25, 2, -1)", maze.way(25, 2, -1), -1);
        check.due("way(25, 2, MIN)", maze.way(25, 2, Integer.MIN_VALUE), -1);
        check.due("way(7, 7, 0)", maze.way(7, 7, 0), 7);
        check.due("way(7, 7, 1)", maze.way(7, 7, 1), -4);
        maze.door(2, 2, 0);
        check.due("no way at 0", maze.way(25, 2, 0), -4);
        check.due("no way at -1", maze.way(25, 2, -1), -1);
    }

    /** Around a ring both ways are as long; the least direction is up, then right, down and left. */
    private void wayAmongSeveral() {
        WordMaze maze = Mazes.opened("A");
        due(maze, new int[] {0, 1, 2, 3, 4, 9, 14});
        due(maze, new int[] {14, 9, 4, 3, 2, 1, 0});
        due(maze, new int[] {10, 5, 0, 1, 2, 3, 4});
        due(maze, new int[] {4, 9, 14, 13, 12, 11, 10});
        WordMaze square = Mazes.opened("L");
        due(square, new int[] {20, 21, 26});
        due(square, new int[] {26, 21, 20});
        due(square, new int[] {25, 20, 21, 22, 23, 24});
        due(square, new int[] {24, 29, 28, 27, 26, 25});
        // Opposite rooms of the ring: up ahead of down, right ahead of left.
        due(maze, new int[] {5, 0, 1, 2, 3, 4, 9});
        due(maze, new int[] {9, 4, 3, 2, 1, 0, 5});
        due(maze, new int[] {2, 3, 4, 9, 14, 13, 12});
        due(maze, new int[] {12, 13, 14, 9, 4, 3, 2});
        due(maze, new int[] {1, 2, 3, 4, 9, 14, 13});
        due(maze, new int[] {11, 12, 13, 14, 9, 4, 3});
    }

    private void due(WordMaze maze, int[] way) {
        int last = way[way.length - 1];
        for (int index = 0; index < way.length; index++) {
            String call = "way(" + way[0] + ", " + last + ", " + index + ")";
            check.due(call, maze.way(way[0], last, index), way[index]);
        }
        check.due("way from " + way[0] + " behind its end", maze.way(way[0], last, way.length), -4);
    }

    private void farthest() {
        WordMaze maze = Mazes.opened("I");
        check.due("farthest(2, 0)", maze.farthest(2, 0), 25);
        check.due("farthest(2, 1)", maze.farthest(2, 1), 7);
        check.due("farthest(25, 0)", maze.farthest(25, 0), 2);
        check.due("farthest(29, 1)", maze.farthest(29, 1), 7);
        check.due("farthest(17, 0)", maze.farthest(17, 0), 25);
        check.due("farthest(17, 1)", maze.farthest(17, 1), 4);
        maze.door(22, 2, 0);
        check.due("farthest(2, 0) of its part", maze.farthest(2, 0), 22);
        check.due("farthest(27, 0) of its part", maze.farthest(27, 0), 25);
        check.due("farthest(27, 1) of its part", maze.farthest(27, 1), 2);
        WordMaze bar = Mazes.of("T");
        for (int cell = 0; cell < 4; cell++) {
            bar.door(cell, 1, 1);
        }
        check.due("farthest(2, 0): the room 0 ahead of 4", bar.farthest(2, 0), 0);
        check.due("farthest(2, 1)", bar.farthest(2, 1), 2);
        check.due("farthest(4, 0)", bar.farthest(4, 0), 0);
        check.due("farthest(4, 1)", bar.farthest(4, 1), 4);
        check.due("farthest(1, 0)", bar.farthest(1, 0), 4);
        bar.door(0, 1, 0);
        check.due("farthest(3, 0) without 0", bar.farthest(3, 0), 1);
        check.due("farthest(2, 0) without 0", bar.farthest(2, 0), 4);
        WordMaze closed = new WordMaze();
        check.due("farthest(0, 0) alone", closed.farthest(0, 0), 0);
        check.due("farthest(0, 1) alone", closed.farthest(0, 1), 0);
        check.due("farthest(65, 0) alone", closed.farthest(65, 0), 65);
        check.due("farthest(52, 0) alone", closed.farthest(52, 0), 52);
        check.due("farthest(52, 1) alone", closed.farthest(52, 1), 0);
        int[] bad = {Integer.MIN_VALUE, -1, 2, Integer.MAX_VALUE};
        for (int what : bad) {
            check.due("farthest(52, " + what + ")", closed.farthest(52, what), -1);
        }
    }

    private void longest() {
        WordMaze closed = Mazes.of("IT");
        dueLongest(closed, 0, 2, 2);
        closed.door(64, 1, 1);
        dueLongest(closed, 1, 64, 65);
        closed.door(57, 1, 1);
        dueLongest(closed, 1, 57, 58);
        closed.door(6, 1, 1);
        closed.door(7, 1, 1);
        dueLongest(closed, 2, 6, 8);
        dueLongest(Mazes.opened("I"), 7, 2, 25);
        dueLongest(Mazes.opened("O"), 9, 0, 29);
        // A star of three rooms around 27: the lowest first room, and of two other ones the lower one.
        WordMaze star = Mazes.of("I");
        star.door(27, 0, 1);
        star.door(27, 1, 1);
        star.door(27, 3, 1);
        dueLongest(star, 2, 22, 26);
        star.door(27, 3, 0);
        dueLongest(star, 2, 22, 28);
        star.door(2, 2, 1);
        dueLongest(star, 2, 22, 28);
        star.door(7, 2, 1);
        dueLongest(star, 2, 2, 12);
        int[] bad = {Integer.MIN_VALUE, -1, 3, Integer.MAX_VALUE};
        for (int what : bad) {
            check.due("longest(" + what + ")", closed.longest(what), -1);
        }
    }

    private void dueLongest(WordMaze maze, int distance, int first, int other) {
        check.due("longest(0)", maze.longest(0), distance);
        check.due("longest(1)", maze.longest(1), first);
        check.due("longest(2)", maze.longest(2), other);
    }

    private void grade() {
        WordMaze maze = new WordMaze();
        check.due("grade with closed doors", maze.grade(), -4);
        maze.goal(55);
        check.due("grade in the goal alone", maze.grade(), 0);
        // 7 doors, one fork, 2 other rooms: (7 + 4 + 1) / 10
        WordMaze tree = Mazes.opened("I");
        check.due("grade of I", tree.grade(), 1);
        tree.door(28, 1, 0);
        // 7 doors, one fork, one other room: (7 + 4 + 0) / 10
        check.due("grade of I with less rooms", tree.grade(), 1);
        tree.door(27, 1, 0);
        // 7 doors: 7 / 10
        check.due("grade of I without a fork", tree.grade(), 0);
        tree.door(26, 1, 0);
        check.due("grade without a way", tree.grade(), -4);
        WordMaze wide = Mazes.opened("SSSSSS");
        wide.start(175);
        wide.goal(209);
        check.due("grade is at most 9", wide.grade(), 9);
        check.due("grade of the seed 7", Mazes.made("HI", 7).grade(), 2);
        manyForks();
    }

    /** A base row with open doors upward at the columns 1 to 3: each is a fork on the way from 25 to 29. */
    private void manyForks() {
        WordMaze maze = Mazes.of("O");
        maze.goal(29);
        for (int cell = 25; cell < 29; cell++) {
            maze.door(cell, 1, 1);
        }
        check.due("4 doors", maze.grade(), 0);
        maze.door(26, 0, 1);
        // (4 + 4 + 0) / 10
        check.due("4 doors, a fork, a room aside", maze.grade(), 0);
        maze.door(27, 0, 1);
        // (4 + 8 + 1) / 10
        check.due("4 doors, 2 forks, 2 rooms aside", maze.grade(), 1);
        maze.door(28, 0, 1);
        // (4 + 12 + 1) / 10
        check.due("4 doors, 3 forks, 3 rooms aside", maze.grade(), 1);
        maze.door(21, 3, 1);
        // (4 + 12 + 2) / 10
        check.due("4 doors, 3 forks, 4 rooms aside", maze.grade(), 1);
        maze.door(20, 0, 1);
        maze.door(15, 0, 1);
        maze.door(10, 0, 1);
        // (4 + 12 + 3) / 10
        check.due("4 doors, 3 forks, 7 rooms aside", maze.grade(), 1);
        maze.door(5, 0, 1);
        // (4 + 12 + 4) / 10
        check.due("4 doors, 3 forks, 8 rooms aside", maze.grade(), 2);
    }

    /** The base row of TT with 21 rooms at most: each door more adds 1 behind the start, each room aside a half. */
    private void gradeSteps() {
        WordMaze maze = Mazes.of("TT");
        for (int cell = 55; cell < 65; cell++) {
            maze.door(cell, 1, 1);
        }
        maze.goal(64);
        check.due("9 doors and a room aside", maze.grade(), 0);
        maze.goal(65);
        check.due("10 doors", maze.grade(), 1);
        maze.goal(63);
        check.due("8 doors and 2 rooms aside", maze.grade(), 0);
        maze.door(57, 0, 1);
        check.due("8 doors, a fork and 3 rooms aside", maze.grade(), 1);
        maze.start(57);
        maze.goal(58);
        // one door, the fork is the start, 10 rooms aside: (1 + 4 + 5) / 10
        check.due("a fork in the start counts", maze.grade(), 1);
        maze.start(58);
        maze.goal(57);
        // one door, the fork is the goal, 10 rooms aside: (1 + 5) / 10
        check.due("a fork in the goal does not count", maze.grade(), 0);
        maze.goal(58);
        // 11 rooms aside: (0 + 5) / 10
        check.due("the start in the goal", maze.grade(), 0);
    }

    /** The last value of each grade and the first one of the next: doors + 4 * forks + rooms aside / 2. */
    private void eachGrade() {
        for (int value = 2; value <= 111; value++) {
            int forks = 0;
            while (value - 9 * forks / 2 > 30) {
                forks += 2;
            }
            int doors = value - 4 * forks - forks / 2;
            check.due("grade of " + doors + " doors and " + forks + " forks", along(doors, forks).grade(),
                Math.min(value / 10, 9));
        }
        check.due("grade of 34 doors and 28 forks", along(34, 28).grade(), 9);
        check.due("grade of 8 doors and a fork: 12", along(8, 1).grade(), 1);
        check.due("grade of 5 doors and a fork: 9 and a half less", along(5, 1).grade(), 0);
        check.due("grade of 5 doors and 3 forks: 18 and a half less", along(5, 3).grade(), 1);
        check.due("grade of 6 doors and 3 forks: 19 and a half less", along(6, 3).grade(), 1);
        check.due("grade of 7 doors and 3 forks: 20 and a half less", along(7, 3).grade(), 2);
    }

    /** Doors in a row from the cell 175 on, the goal at their end, and forks from the highest columns down. */
    private WordMaze along(int doors, int forks) {
        WordMaze maze = Mazes.of("LLLLLL");
        for (int k = 0; k < doors; k++) {
            maze.door(175 + k, 1, 1);
        }
        maze.goal(175 + doors);
        int opened = 0;
        for (int k = doors - 1; k >= 1 && opened < forks; k--) {
            opened += maze.door(175 + k, 0, 1) == 0 ? 1 : 0;
        }
        check.due("forks along " + doors + " doors", maze.count(9), forks);
        return maze;
    }

    private void roomsAreAsked() {
        WordMaze maze = Mazes.opened("I");
        int[] bad = {Integer.MIN_VALUE, -1, 0, 1, 3, 30, 210, Integer.MAX_VALUE};
        for (int room : bad) {
            check.due("start(" + room + ")", maze.start(room), -1);
            check.due("goal(" + room + ")", maze.goal(room), -1);
            check.due("distance(" + room + ", 2)", maze.distance(room, 2), -1);
            check.due("distance(2, " + room + ")", maze.distance(2, room), -1);
            check.due("again(" + room + ", 2)", maze.again(room, 2), -1);
            check.due("again(2, " + room + ")", maze.again(2, room), -1);
            check.due("way(" + room + ", 2, 0)", maze.way(room, 2, 0), -1);
            check.due("way(2, " + room + ", 99)", maze.way(2, room, 99), -1);
            check.due("farthest(" + room + ", 0)", maze.farthest(room, 0), -1);
        }
        check.due("start is as before", maze.count(10), 25);
        check.due("goal is as before", maze.count(11), 2);
    }
}
