/** Nothing there yet, one less than full, full, and one too many: of the text, the signs and the history. */
public final class EmptyAndFullTest {
    private final Check check = new Check("EmptyAndFullTest");

    public static void main(String[] args) {
        EmptyAndFullTest test = new EmptyAndFullTest();
        test.emptyText();
        test.fullText();
        test.fullTextIntoTheGoal();
        test.longestWord();
        test.noSigns();
        test.fullOfSigns();
        test.fullOfSignsBehindOtherChanges();
        test.emptyHistory();
        test.fullHistory();
        test.eachChangeDropsTheOldest();
        test.manyChanges();
        test.changesBetweenUndos();
        test.changesWithoutDifference();
        test.whatIsNoChange();
        test.eachChangeIsUndone();
        test.droppedWords();
        test.check.end();
    }

    private static WordMaze typed(char character, int times) {
        WordMaze maze = new WordMaze();
        for (int k = 0; k < times; k++) {
            maze.type(character);
        }
        return maze;
    }

    private void emptyText() {
        WordMaze maze = new WordMaze();
        check.due("length of the empty text", maze.count(15), 0);
        check.due("the empty text is no word", maze.word(), -2);
        check.due("fault(0) of the empty text", maze.fault(0), 0);
        check.due("fault(1) of the empty text", maze.fault(1), 5);
        check.due("moved() of the empty text", maze.moved(), 55);
        check.due("clearText() of the empty text", maze.clearText(), 0);
        maze.goal(55);
        check.due("fault(0) of the empty text in the goal", maze.fault(0), -4);
        check.due("fault(1) of the empty text in the goal", maze.fault(1), -4);
        check.due("fault(2) of the empty text in the goal", maze.fault(2), -1);
        check.due("moved() of the empty text in the goal", maze.moved(), 55);
        check.due("type('L')", maze.type('L'), 1);
        check.due("clearText() of one character", maze.clearText(), 1);
        check.due("length behind clearText()", maze.count(15), 0);
        check.due("a cleared text is no word", maze.word(), -2);
    }

    private void fullText() {
        WordMaze maze = typed('H', 198);
        check.due("type number 199", maze.type('H'), 199);
        check.due("type number 200", maze.type('H'), 200);
        check.due("length of 200", maze.count(15), 200);
        check.due("type number 201", maze.type('H'), -3);
        check.due("type number 201 again", maze.type(' '), -3);
        check.due("length behind the refused ones", maze.count(15), 200);
        check.due("type number 201 below the least", maze.type(31), -1);
        check.due("type number 201 above the greatest", maze.type(127), -1);
        check.due("200 letters are no word", maze.word(), -2);
        check.due("fault(0) of 200 letters", maze.fault(0), 0);
        check.due("fault(1) of 200 letters", maze.fault(1), 1);
        check.due("clearText() of 200", maze.clearText(), 200);
        check.due("type behind it", maze.type('H'), 1);
        check.due("word() behind it", maze.word(), 18);
    }

    /** 200 moves, of which the first 198 go there and back between two rooms. */
    private void fullTextIntoTheGoal() {
        due(200, there(25, 27, "RL", "RR"), -4, -4, 27);
        due(200, there(26, 27, "LR", "RR"), 199, 4, 27);
        due(200, there(25, 2, "RL", "RL"), 200, 5, 25);
        due(200, there(25, 2, "RL", "RR"), 200, 5, 27);
        due(200, there(25, 2, "RL", "RD"), 199, 2, 26);
        due(200, there(25, 2, "RL", "Rr"), 199, 1, 26);
        due(200, there(25, 2, "RL", "LR"), 198, 2, 25);
        due(199, there(25, 26, "UD", "R"), 0, 2, 25);
        due(199, there(25, 2, "RL", "R"), 199, 5, 26);
        WordMaze full = there(25, 27, "RL", "RR");
        check.due("one more", full.type('U'), -3);
        due(200, full, -4, -4, 27);
        check.due("one more that is none", full.type(127), -1);
        due(200, full, -4, -4, 27);
        WordMaze closed = there(25, 27, "RL", "RR");
        closed.door(27, 3, 0);
        due(200, closed, 199, 3, 26);
    }

    private static WordMaze there(int start, int goal, String thereAndBack, String last) {
        WordMaze maze = Mazes.opened("I");
        maze.start(start);
        maze.goal(goal);
        Mazes.type(maze, thereAndBack.repeat(99) + last);
        return maze;
    }

    private void due(int length, WordMaze maze, int index, int reason, int room) {
        String name = " of " + length + " moves, due " + index + " " + reason + " " + room;
        check.due("length" + name, maze.count(15), length);
        check.due("fault(0)" + name, maze.fault(0), index);
        check.due("fault(1)" + name, maze.fault(1), reason);
        check.due("moved()" + name, maze.moved(), room);
    }

    private void longestWord() {
        WordMaze maze = typed('I', 6);
        check.due("a word of six", maze.word(), 65);
        maze.type('I');
        check.due("a word of seven", maze.word(), -2);
        check.due("letters behind it", maze.count(0), 6);
        check.due("states behind it", maze.count(14), 1);
        check.due("a word of one", typed('I', 1).word(), 10);
    }

    private void noSigns() {
        WordMaze maze = Mazes.opened("I");
        check.due("signs of a new maze", maze.count(12), 0);
        check.due("signs that count", maze.count(13), 0);
        check.due("unsign(27) without signs", maze.unsign(27), -4);
        check.due("points(27) without signs", maze.points(27), -2);
        check.due("sign number 1", maze.sign(27, 2, 3), 1);
        check.due("unsign(27) of the only one", maze.unsign(27), 2);
        check.due("unsign(27) again", maze.unsign(27), -4);
        check.due("points(27) behind it", maze.points(27), -2);
        check.due("signs behind it", maze.count(12), 0);
    }

    /** The rooms of "HI" from the highest down: 11 in the base row, then nine more. */
    private static final int[] TWENTY = {
        65, 64, 63, 62, 61, 60, 59, 58, 57, 56, 55, 52, 48, 44, 41, 37, 33, 30, 26, 25
    };

    private static WordMaze signed(int signs) {
        WordMaze maze = new WordMaze();
        for (int k = 0; k < signs; k++) {
            maze.sign(TWENTY[k], k % 3, 0);
        }
        return maze;
    }

    private void fullOfSigns() {
        check.due("sign number 19", signed(18).sign(0, 0, 0), 19);
        check.due("sign number 20", signed(19).sign(0, 0, 0), 20);
        for (int kind = 0; kind < 3; kind++) {
            check.due("sign number 21 of the kind " + kind, signed(20).sign(0, kind, 0), -3);
        }
        WordMaze maze = signed(20);
        check.due("signs", maze.count(12), 20);
        check.due("sign number 21", maze.sign(0, 0, 0), -3);
        check.due("signs behind it", maze.count(12), 20);
        check.due("it was not put", maze.unsign(0), -4);
        for (int room : TWENTY) {
            check.due("in place of the one in " + room, maze.sign(room, 2, 1), 20);
        }
        check.due("unsign(65)", maze.unsign(65), 2);
        check.due("sign(65, 1, 0) is number 20 again", maze.sign(65, 1, 0), 20);
        check.due("sign number 21 again", maze.sign(0, 0, 0), -3);
    }

    private void fullOfSignsBehindOtherChanges() {
        WordMaze maze = signed(20);
        check.due("make with 20 signs", maze.make(1), 28);
        check.due("sign number 21 behind make", maze.sign(0, 0, 0), -3);
        maze.unsign(65);
        check.due("sign(0) then", maze.sign(0, 0, 0), 20);
        maze.undo();
        check.due("sign(4) in place of it, behind undo", maze.sign(4, 0, 0), 20);
        maze.undo();
        maze.undo();
        check.due("sign number 21 behind two undos", maze.sign(4, 0, 0), -3);
        check.due("sign(65) behind two undos", maze.unsign(65), 0);
        Mazes.type(maze, "HI");
        maze.word();
        check.due("signs behind word()", maze.count(12), 0);
        check.due("sign number 1 behind word()", maze.sign(0, 0, 0), 1);
        maze.undo();
        maze.undo();
        check.due("signs behind its undo", maze.count(12), 19);
        check.due("sign number 20 behind its undo", maze.sign(0, 0, 0), 20);
        check.due("sign number 21 behind its undo", maze.sign(4, 0, 0), -3);
    }

    private void emptyHistory() {
        WordMaze maze = new WordMaze();
        check.due("states of a new object", maze.count(14), 0);
        check.due("undo() of a new object", maze.undo(), -2);
        check.due("states behind it", maze.count(14), 0);
        maze.goal(8);
        check.due("states behind one change", maze.count(14), 1);
        check.due("undo() of it", maze.undo(), 0);
        check.due("goal behind it", maze.count(11), 0);
        check.due("undo() again", maze.undo(), -2);
        check.due("goal behind it", maze.count(11), 0);
    }

    private static WordMaze changed(int changes) {
        WordMaze maze = new WordMaze();
        for (int k = 1; k <= changes; k++) {
            maze.start(55 + k);
        }
        return maze;
    }

    private void fullHistory() {
        for (int changes = 0; changes <= 10; changes++) {
            WordMaze maze = changed(changes);
            int states = Math.min(changes, 5);
            check.due("states behind " + changes + " changes", maze.count(14), states);
            for (int k = 1; k <= states; k++) {
                check.due("undo() number " + k + " of " + changes, maze.undo(), states - k);
                check.due("start behind undo number " + k + " of " + changes, maze.count(10), 55 + changes - k);
            }
            check.due("undo() of a history that is empty again", maze.undo(), -2);
            check.due("start behind it", maze.count(10), 55 + changes - states);
        }
    }

    private int change(WordMaze maze, int kind) {
        switch (kind) {
            case 0: return maze.word();
            case 1: return maze.make(5);
            case 2: return maze.door(55, 1, 1);
            case 3: return maze.start(65);
            case 4: return maze.goal(65);
            case 5: return maze.sign(64, 0, 0);
            default: return maze.unsign(65);
        }
    }

    private void eachChangeDropsTheOldest() {
        for (int kind = 0; kind < 7; kind++) {
            WordMaze maze = new WordMaze();
            Mazes.type(maze, "HI");
            maze.goal(8);
            maze.sign(65, 1, 0);
            maze.start(56);
            maze.start(57);
            maze.start(58);
            check.due("states ahead of the change " + kind, maze.count(14), 5);
            check.due("the change " + kind + " is no error", change(maze, kind) >= 0 ? 1 : 0, 1);
            check.due("states behind the change " + kind, maze.count(14), 5);
            check.due("undo() of the change " + kind, maze.undo(), 4);
            check.due("start behind its undo", maze.count(10), 58);
            for (int states = 3; states >= 0; states--) {
                check.due("undo() behind the change " + kind, maze.undo(), states);
            }
            check.due("undo() of the state that was dropped", maze.undo(), -2);
            check.due("the sign is gone", maze.count(12), 0);
            check.due("the goal of the dropped state did not come back", maze.count(11), 8);
        }
    }

    private void manyChanges() {
        WordMaze maze = new WordMaze();
        for (int k = 0; k < 137; k++) {
            maze.start(55 + k % 11);
            maze.goal(65 - k % 11);
        }
        // The last one is k = 136: 136 % 11 is 4.
        int[] starts = {59, 58, 58, 57, 57};
        int[] goals = {62, 62, 63, 63, 64};
        for (int k = 0; k < 5; k++) {
            check.due("undo() behind many changes", maze.undo(), 4 - k);
            check.due("start behind undo number " + (k + 1), maze.count(10), starts[k]);
            check.due("goal behind undo number " + (k + 1), maze.count(11), goals[k]);
        }
        check.due("undo() at the end", maze.undo(), -2);
    }

    private void changesBetweenUndos() {
        WordMaze maze = changed(7);
        maze.undo();
        maze.undo();
        check.due("start behind two undos", maze.count(10), 60);
        maze.start(63);
        maze.start(64);
        check.due("states, full again", maze.count(14), 5);
        maze.start(65);
        check.due("states, one more dropped", maze.count(14), 5);
        int[] starts = {64, 63, 60, 59, 58};
        for (int k = 0; k < 5; k++) {
            check.due("undo()", maze.undo(), 4 - k);
            check.due("start behind it", maze.count(10), starts[k]);
        }
        check.due("undo() at the end", maze.undo(), -2);
        maze.start(0);
        check.due("states behind a change at the end", maze.count(14), 1);
        check.due("undo() of it", maze.undo(), 0);
        check.due("start behind it", maze.count(10), 58);
    }

    private void changesWithoutDifference() {
        for (int kind = 0; kind < 6; kind++) {
            WordMaze maze = new WordMaze();
            Mazes.type(maze, "HI");
            for (int k = 0; k < 2; k++) {
                check.due("the change " + kind + " is no error", change(maze, kind) >= 0 ? 1 : 0, 1);
            }
            check.due("states behind the change " + kind + " twice", maze.count(14), 2);
        }
        WordMaze closed = new WordMaze();
        check.due("a closed door is closed", closed.door(55, 1, 0), 0);
        check.due("that is a change too", closed.count(14), 1);
    }

    private void whatIsNoChange() {
        WordMaze maze = Mazes.made("I", 0);
        maze.sign(27, 0, 0);
        maze.letterOf(2);
        maze.letter(0, 3);
        maze.isRoom(2);
        maze.doors(27);
        maze.part(29);
        maze.distance(2, 25);
        maze.again(2, 25);
        maze.way(2, 25, 1);
        maze.farthest(2, 0);
        maze.longest(1);
        maze.grade();
        maze.points(27);
        maze.walk(5, 0);
        maze.walked();
        maze.type('R');
        maze.fault(0);
        maze.moved();
        maze.clearText();
        check.due("states behind 18 other calls", maze.count(14), 3);
        maze.undo();
        check.due("undo() is none either", maze.count(14), 2);
    }

    /** Each change alone, and then all that it changed is as it was. */
    private void eachChangeIsUndone() {
        for (int kind = 0; kind < 7; kind++) {
            WordMaze maze = Mazes.opened("H");
            maze.door(25, 1, 0);
            maze.sign(10, 2, 1);
            maze.start(4);
            maze.goal(20);
            if (kind == 0) {
                Mazes.type(maze, "IC");
                check.due("word() of IC", maze.word(), 29);
            } else if (kind == 1) {
                check.due("make(5)", maze.make(5), 17);
            } else if (kind == 2) {
                check.due("door(25, 1, 1)", maze.door(25, 1, 1), 0);
            } else if (kind == 3) {
                check.due("start(0)", maze.start(0), 4);
            } else if (kind == 4) {
                check.due("goal(0)", maze.goal(0), 20);
            } else if (kind == 5) {
                check.due("sign(10, 2, 2)", maze.sign(10, 2, 2), 1);
            } else {
                check.due("unsign(10)", maze.unsign(10), 2);
            }
            maze.undo();
            String behind = " behind the undo of the change " + kind;
            check.due("letters" + behind, maze.count(0), 1);
            check.due("the letter" + behind, maze.letter(0, 0), 'H');
            check.due("rooms" + behind, maze.count(2), 18);
            check.due("doors" + behind, maze.count(3), 18);
            check.due("open doors" + behind, maze.count(4), 17);
            check.due("doors(25)" + behind, maze.doors(25), 1);
            check.due("start" + behind, maze.count(10), 4);
            check.due("goal" + behind, maze.count(11), 20);
            check.due("points(10)" + behind, maze.points(10), 1);
            check.due("signs" + behind, maze.count(12), 1);
            check.due("the text" + behind, maze.count(15), kind == 0 ? 2 : 0);
        }
    }

    private void droppedWords() {
        WordMaze maze = new WordMaze();
        String[] words = {"A", "CE", "FGH", "ILMO", "PSTUW", "WWWWWW", "I"};
        int[] rooms = new int[words.length];
        for (int k = 0; k < words.length; k++) {
            Mazes.type(maze, words[k]);
            rooms[k] = maze.word();
        }
        for (int k = 5; k >= 1; k--) {
            check.due("undo() of words", maze.undo(), k - 1);
            check.due("letters of " + words[k], maze.count(0), words[k].length());
            check.due("rooms of " + words[k], maze.count(2), rooms[k]);
            check.due("first letter of " + words[k], maze.letter(0, 0), words[k].charAt(0));
            check.due("behind the letters of " + words[k], maze.letter(words[k].length(), 0), -4);
            check.due("start of " + words[k], maze.count(10), 5 * (6 * words[k].length() - 1));
        }
        check.due("undo() of the word that was dropped", maze.undo(), -2);
        check.due("letters at the end", maze.count(0), 2);
        check.due("the first letter at the end", maze.letter(0, 0), 'C');
    }
}
