/** Short ways to the mazes that several tests use. */
final class Mazes {
    private Mazes() {
    }

    static void type(WordMaze maze, String text) {
        maze.clearText();
        for (char character : text.toCharArray()) {
            maze.type(character);
        }
    }

    static WordMaze of(String word) {
        WordMaze maze = new WordMaze();
        type(maze, word);
        maze.word();
        maze.clearText();
        return maze;
    }

    /** All doors of the word open. */
    static WordMaze opened(String word) {
        WordMaze maze = of(word);
        for (int cell = 0; maze.isRoom(cell) >= 0; cell++) {
            maze.door(cell, 1, 1);
            maze.door(cell, 2, 1);
        }
        return maze;
    }
}
