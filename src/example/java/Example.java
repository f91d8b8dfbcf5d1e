/** A maze from a word and a seed, a way through it, a sign, a walker, moves as a text, and undo. */
public final class Example {
    private static void type(WordMaze maze, String text) {
        maze.clearText();
        for (int k = 0; k < text.length(); k++) {
            maze.type(text.charAt(k));
        }
    }

    private static void draw(WordMaze maze) {
        int width = maze.count(1);
        for (int row = 0; row < 6; row++) {
            StringBuilder rooms = new StringBuilder();
            StringBuilder below = new StringBuilder();
            for (int cell = row * width; cell < (row + 1) * width; cell++) {
                boolean room = maze.isRoom(cell) == 1;
                int doors = room ? maze.doors(cell) : 0;
                rooms.append(room ? 'o' : ' ').append((doors & 2) != 0 ? '-' : ' ');
                below.append((doors & 4) != 0 ? "| " : "  ");
            }
            System.out.println(rooms.toString().stripTrailing());
            if (row < 5) {
                System.out.println(below.toString().stripTrailing());
            }
        }
    }

    /** A sign in each fork; a room is a fork if it has three or four open doors. */
    private static void signForks(WordMaze maze, int kind) {
        int cells = 6 * maze.count(1);
        for (int room = 0; room < cells; room++) {
            if (maze.isRoom(room) == 1 && Integer.bitCount(maze.doors(room)) >= 3) {
                maze.sign(room, kind, 0);
            }
        }
    }

    private static void tellMoves(WordMaze maze, String moves) {
        type(maze, moves);
        System.out.println(moves + ": fault at " + maze.fault(0) + " for the reason " + maze.fault(1)
            + ", in the room " + maze.moved());
    }

    public static void main(String[] args) {
        WordMaze maze = new WordMaze();
        type(maze, "MAP");
        System.out.println("rooms: " + maze.word());
        System.out.println("open doors: " + maze.make(7));
        draw(maze);
        System.out.println("longest way: " + maze.longest(0) + " doors");
        maze.goal(101);
        System.out.println("way from " + maze.count(10) + " to " + maze.count(11) + ": "
            + maze.distance(maze.count(10), maze.count(11)) + " doors, the grade " + maze.grade());
        System.out.println("the walker without signs: " + maze.walked() + " steps");
        signForks(maze, 0);
        System.out.println("the walker with " + maze.count(12) + " true signs: " + maze.walked() + " steps");
        maze.unsign(40);
        System.out.println("without the one in 40: " + maze.walked() + " steps");
        System.out.println("states left behind undo: " + maze.undo());
        System.out.println("with it again: " + maze.walked() + " steps");
        tellMoves(maze, "UUUUURRRR");
        tellMoves(maze, "UUUUURRRRR");
        tellMoves(maze, "UUL");
        tellMoves(maze, "up");
        System.out.println("a door of no room: " + (maze.door(102, 0, 1) == WordMaze.INVALID_ARGUMENT));
    }
}
