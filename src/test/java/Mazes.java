import java.util.List;

/** Short ways to the mazes that several tests use; none takes more than 180 of an object's 512 calls. */
final class Mazes {
    private Mazes() {
    }

    static void type(WordMaze maze, String text) {
        maze.clearText();
        for (char character : text.toCharArray()) {
            maze.type(character);
        }
    }

    static WordMaze of(String word) {
        WordMaze maze = new WordMaze();
        type(maze, word);
        maze.word();
        maze.clearText();
        return maze;
    }

    /** All doors of the word open. */
    static WordMaze opened(String word) {
        WordMaze maze = of(word);
        for (List<Integer> door : model(word).allDoors()) {
            maze.door(door.get(0), door.get(1) == door.get(0) + 1 ? 1 : 2, 1);
        }
        return maze;
    }

    static WordMaze made(String word, int seed) {
        WordMaze maze = of(word);
        maze.make(seed);
        return maze;
    }

    static Model model(String word) {
        Model model = new Model();
        for (char letter : word.toCharArray()) {
            model.type(letter);
        }
        model.word();
        return model;
    }
}
