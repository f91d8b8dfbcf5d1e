/** Promises 1 to 5: a new object, word, letterOf, letter, isRoom. */
public final class ShapeTest {
    private static final int[][] BY_HAND = {
        // code, rooms, doors inside, doors to the base row
        {'A', 16, 16, 2}, {'C', 13, 12, 5}, {'E', 16, 15, 5}, {'F', 12, 11, 1}, {'G', 17, 16, 5},
        {'H', 13, 12, 2}, {'I', 5, 4, 1}, {'L', 9, 8, 5}, {'M', 17, 16, 3}, {'O', 16, 16, 5},
        {'P', 14, 14, 1}, {'S', 17, 16, 5}, {'T', 9, 8, 1}, {'U', 13, 12, 5}, {'W', 17, 16, 5}
    };

    private final Check check = new Check("ShapeTest");

    public static void main(String[] args) {
        ShapeTest test = new ShapeTest();
        test.columns();
        test.newObject();
        test.word();
        test.wordMakesAnew();
        test.noWord();
        test.letterOf();
        test.eachLetter();
        test.drawings();
        test.letterErrors();
        test.isRoom();
        test.check.end();
    }

    /** Columns: 0 and 4 of a letter belong to it, 5 to none, and behind the last letter there is no column. */
    private void columns() {
        for (int n = 1; n <= 6; n++) {
            WordMaze maze = Mazes.of("UUUUUU".substring(0, n));
            int width = 6 * n - 1;
            check.due("n of " + n + " letters", maze.count(0), n);
            check.due("W of " + n + " letters", maze.count(1), width);
            check.due("rooms of " + n + " letters", maze.count(2), 13 * n + width);
            check.due("doors of " + n + " letters", maze.count(3), 17 * n + width - 1);
            check.due("start of " + n + " letters", maze.count(10), 5 * width);
            for (int k = 0; k < n; k++) {
                for (int row = 0; row < 5; row++) {
                    int first = row * width + 6 * k;
                    check.due("the first column of the letter " + k, maze.letterOf(first), k);
                    check.due("the last column of the letter " + k, maze.letterOf(first + 4), k);
                    if (k < n - 1) {
                        check.due("the gap behind the letter " + k, maze.isRoom(first + 5), 0);
                        check.due("the gap's letter behind " + k, maze.letterOf(first + 5), -1);
                    }
                }
                check.due("the base row below the letter " + k, maze.letterOf(5 * width + 6 * k), -4);
            }
            check.due("the last cell", maze.isRoom(6 * width - 1), 1);
            check.due("behind the last cell", maze.isRoom(6 * width), -1);
            check.due("the last letter's last room", maze.letterOf(5 * width - 1), n - 1);
            check.due("the base row's first room", maze.letterOf(5 * width), -4);
        }
    }

    private void newObject() {
        WordMaze maze = new WordMaze();
        int[] due = {2, 11, 29, 29, 0, 29, 0, 0, 0, 0, 55, 0, 0, 0, 0, 0};
        for (int what = 0; what < due.length; what++) {
            check.due("count(" + what + ") of a new object", maze.count(what), due[what]);
        }
        check.due("letter(0, 0) of a new object", maze.letter(0, 0), 'H');
        check.due("letter(1, 0) of a new object", maze.letter(1, 0), 'I');
        check.due("doors(0) of a new object", maze.doors(0), 0);
        check.due("fault(0) of a new object", maze.fault(0), 0);
        check.due("fault(1) of a new object", maze.fault(1), 5);
    }

    private void word() {
        WordMaze maze = new WordMaze();
        Mazes.type(maze, "I");
        check.due("word() of I", maze.word(), 10);
        check.due("the text stays", maze.count(15), 1);
        check.due("n of I", maze.count(0), 1);
        check.due("W of I", maze.count(1), 5);
        check.due("doors of I", maze.count(3), 9);
        check.due("start of I", maze.count(10), 25);
        check.due("goal of I", maze.count(11), 2);
        check.due("word() of I again", maze.word(), 10);
        check.due("both are changes", maze.count(14), 2);
        Mazes.type(maze, "WWWWWW");
        check.due("word() of WWWWWW", maze.word(), 137);
        check.due("n of WWWWWW", maze.count(0), 6);
        check.due("W of WWWWWW", maze.count(1), 35);
        check.due("doors of WWWWWW", maze.count(3), 160);
        check.due("start of WWWWWW", maze.count(10), 175);
        check.due("goal of WWWWWW", maze.count(11), 0);
        Mazes.type(maze, "TIL");
        check.due("word() of TIL", maze.word(), 40);
        check.due("goal of TIL", maze.count(11), 0);
        Mazes.type(maze, "IT");
        maze.word();
        check.due("goal of IT", maze.count(11), 2);
        check.due("start of IT", maze.count(10), 55);
    }

    private void wordMakesAnew() {
        WordMaze maze = new WordMaze();
        Mazes.type(maze, "HI");
        maze.make(3);
        maze.start(60);
        maze.goal(8);
        maze.sign(60, 2, 1);
        check.due("word() of HI", maze.word(), 29);
        check.due("open doors behind word()", maze.count(4), 0);
        check.due("signs behind word()", maze.count(12), 0);
        check.due("start behind word()", maze.count(10), 55);
        check.due("goal behind word()", maze.count(11), 0);
        check.due("history behind word()", maze.count(14), 5);
        maze.undo();
        check.due("open doors behind undo()", maze.count(4), 28);
        check.due("signs behind undo()", maze.count(12), 1);
        check.due("start behind undo()", maze.count(10), 60);
        check.due("goal behind undo()", maze.count(11), 8);
    }

    private void noWord() {
        String[] texts = {"", "B", "h", "HB", "BH", "H I", "HI ", " HI", "AAAAAAA", "ACEFGHILMOPSTUW", "HI!", "1", "@", "~"};
        for (String text : texts) {
            WordMaze maze = new WordMaze();
            maze.make(1);
            Mazes.type(maze, text);
            check.due("word() of '" + text + "'", maze.word(), -2);
            check.due("history behind word() of '" + text + "'", maze.count(14), 1);
            check.due("rooms behind word() of '" + text + "'", maze.count(2), 29);
            check.due("open doors behind word() of '" + text + "'", maze.count(4), 28);
        }
        for (int code = 32; code <= 126; code++) {
            WordMaze maze = new WordMaze();
            maze.type(code);
            boolean known = "ACEFGHILMOPSTUW".indexOf(code) >= 0;
            check.due("word() of the character " + code, maze.word() > 0 ? 1 : 0, known ? 1 : 0);
        }
    }

    private void letterOf() {
        WordMaze maze = new WordMaze();
        check.due("letterOf(0)", maze.letterOf(0), 0);
        check.due("letterOf(48)", maze.letterOf(48), 0);
        check.due("letterOf(8)", maze.letterOf(8), 1);
        check.due("letterOf(52)", maze.letterOf(52), 1);
        check.due("letterOf(55)", maze.letterOf(55), -4);
        check.due("letterOf(65)", maze.letterOf(65), -4);
        noRoomOfHi("letterOf", new int[] {maze.letterOf(-1), maze.letterOf(1), maze.letterOf(5), maze.letterOf(66),
            maze.letterOf(Integer.MIN_VALUE), maze.letterOf(Integer.MAX_VALUE)});
        WordMaze six = Mazes.of("WWWWWW");
        for (int letter = 0; letter < 6; letter++) {
            check.due("letterOf in WWWWWW", six.letterOf(6 * letter), letter);
            check.due("letterOf in WWWWWW", six.letterOf(4 * 35 + 6 * letter + 4), letter);
        }
        check.due("letterOf(209)", six.letterOf(209), -4);
        check.due("letterOf(210)", six.letterOf(210), -1);
    }

    private void noRoomOfHi(String call, int[] answers) {
        for (int answer : answers) {
            check.due(call + " of no room", answer, -1);
        }
    }

    private void eachLetter() {
        for (int[] due : BY_HAND) {
            String letter = String.valueOf((char) due[0]);
            WordMaze alone = Mazes.of(letter);
            check.due("rooms of " + letter, alone.count(2), due[1] + 5);
            check.due("doors of " + letter, alone.count(3), due[2] + due[3] + 4);
            for (int place = 0; place < 6; place++) {
                WordMaze maze = Mazes.opened("IIIIII".substring(0, place) + letter + "LLLLLL".substring(place + 1));
                check.due("letter(" + place + ", 0) of " + letter, maze.letter(place, 0), due[0]);
                check.due("letter(" + place + ", 1) of " + letter, maze.letter(place, 1), due[1]);
                check.due("letter(" + place + ", 2) of " + letter, maze.letter(place, 2), due[2]);
                check.due("letter(" + place + ", 3) of " + letter, maze.letter(place, 3), due[2]);
                check.due("letter(" + place + ", 4) of " + letter, maze.letter(place, 4), due[3]);
            }
            check.due("letter(0, 2) of the closed " + letter, alone.letter(0, 2), due[2]);
            check.due("letter(0, 3) of the closed " + letter, alone.letter(0, 3), 0);
            check.due("letter(0, 4) of the closed " + letter, alone.letter(0, 4), 0);
        }
        WordMaze maze = new WordMaze();
        maze.door(22, 1, 1);
        maze.door(33, 0, 1);
        maze.door(44, 2, 1);
        maze.door(55, 1, 1);
        check.due("letter(0, 3) with two doors", maze.letter(0, 3), 2);
        check.due("letter(0, 4) with one door", maze.letter(0, 4), 1);
        check.due("letter(1, 3) with no door", maze.letter(1, 3), 0);
        check.due("letter(1, 4) with no door", maze.letter(1, 4), 0);
    }

    /** Each letter in each place, cell by cell. */
    private void drawings() {
        for (String shape : Model.SHAPES) {
            String[] words = shape.split(" ");
            for (int place = 0; place < 6; place++) {
                WordMaze maze = Mazes.of("WWWWWW".substring(0, place) + words[0] + "OOOOOO".substring(place + 1));
                for (int row = 0; row < 5; row++) {
                    for (int column = 0; column < 5; column++) {
                        int due = Integer.parseInt(words[row + 1]) >> (4 - column) & 1;
                        String call = "row " + row + ", column " + column + " of " + words[0] + " at " + place;
                        check.due(call, maze.isRoom(35 * row + 6 * place + column), due);
                    }
                    if (place < 5) {
                        check.due("the gap behind " + words[0], maze.isRoom(35 * row + 6 * place + 5), 0);
                    }
                }
            }
        }
    }

    private void letterErrors() {
        WordMaze maze = new WordMaze();
        int[] bad = {Integer.MIN_VALUE, -1, 5, Integer.MAX_VALUE};
        for (int what : bad) {
            check.due("letter(0, " + what + ")", maze.letter(0, what), -1);
            check.due("letter(2, " + what + ")", maze.letter(2, what), -1);
        }
        check.due("letter(-1, 0)", maze.letter(-1, 0), -1);
        check.due("letter(MIN, 0)", maze.letter(Integer.MIN_VALUE, 0), -1);
        check.due("letter(2, 0)", maze.letter(2, 0), -4);
        check.due("letter(6, 4)", maze.letter(6, 4), -4);
        check.due("letter(MAX, 0)", maze.letter(Integer.MAX_VALUE, 0), -4);
        check.due("letter(5, 0) of WWWWWW", Mazes.of("WWWWWW").letter(5, 0), 'W');
        check.due("letter(6, 0) of WWWWWW", Mazes.of("WWWWWW").letter(6, 0), -4);
    }

    private void isRoom() {
        WordMaze maze = new WordMaze();
        String[] drawing = {"#...#...#..", "#...#...#..", "#####...#..", "#...#...#..", "#...#...#..", "###########"};
        for (int cell = 0; cell < 66; cell++) {
            int due = drawing[cell / 11].charAt(cell % 11) == '#' ? 1 : 0;
            check.due("isRoom(" + cell + ")", maze.isRoom(cell), due);
        }
        noRoomOfHi("isRoom", new int[] {maze.isRoom(-1), maze.isRoom(66), maze.isRoom(Integer.MIN_VALUE),
            maze.isRoom(Integer.MAX_VALUE)});
        WordMaze one = Mazes.of("S");
        check.due("isRoom(29) of S", one.isRoom(29), 1);
        check.due("isRoom(30) of S", one.isRoom(30), -1);
        check.due("isRoom(15) of S", one.isRoom(15), 0);
        check.due("isRoom(19) of S", one.isRoom(19), 1);
        WordMaze six = Mazes.of("SSSSSS");
        check.due("isRoom(209) of SSSSSS", six.isRoom(209), 1);
        check.due("isRoom(210) of SSSSSS", six.isRoom(210), -1);
        Mazes.type(six, "I");
        six.word();
        check.due("isRoom(30) of I behind SSSSSS", six.isRoom(30), -1);
        check.due("isRoom(0) of I behind SSSSSS", six.isRoom(0), 0);
    }
}
