import java.util.Arrays;

/** A maze in the shape of a word; ../shared/DOC.md tells what each call answers. */
public final class WordMaze {
    public static final int INVALID_ARGUMENT = -1;
    public static final int NOT_POSSIBLE = -2;
    public static final int LIMIT_REACHED = -3;
    public static final int NOT_FOUND = -4;

    private static final int NONE = -1;
    private static final int DIRECTIONS = 4;
    private static final int RIGHT = 1;
    private static final int DOWN = 2;
    private static final int LEFT = 3;
    private static final int MOST_LETTERS = 6;
    private static final int LETTER_SIDE = 5;
    private static final int LETTER_PITCH = 6;
    private static final int MOST_WIDTH = LETTER_PITCH * MOST_LETTERS - 1;
    private static final int MOST_CELLS = 6 * MOST_WIDTH;
    /** A cell is the first room of at most two doors: one to the right and one downward. */
    private static final int MOST_DOORS = 2 * MOST_CELLS;
    private static final int MOST_SEED = 65535;
    private static final int MOST_SIGNS = 20;
    private static final int MOST_STATES = 5;
    private static final int MOST_STEPS = 2000;
    private static final int MOST_CHARACTERS = 200;
    private static final int LOWEST_CHARACTER = 32;
    private static final int HIGHEST_CHARACTER = 126;
    private static final int HIGHEST_GRADE = 9;

    private static final int TRUE_SIGN = 0;
    private static final int FIXED_SIGN = 2;

    /** The owners of cells: no room, a room of the base row, or this number and more for the letters by their places. */
    private static final int NO_ROOM = 0;
    private static final int BASE = 1;
    private static final int FIRST_LETTER = 2;

    /** Each move stands at the place of its direction. */
    private static final String MOVES = "URDL";

    private static final String LETTERS = "ACEFGHILMOPSTUW";
    /** Five rows for each one of LETTERS, in the same order. */
    private static final int[] PATTERNS = {
        31, 17, 31, 17, 17,
        31, 16, 16, 16, 31,
        31, 16, 30, 16, 31,
        31, 16, 30, 16, 16,
        31, 16, 23, 17, 31,
        17, 17, 31, 17, 17,
        4, 4, 4, 4, 4,
        16, 16, 16, 16, 31,
        31, 21, 21, 21, 21,
        31, 17, 17, 17, 31,
        31, 17, 31, 16, 16,
        31, 16, 31, 1, 31,
        31, 4, 4, 4, 4,
        17, 17, 17, 17, 31,
        21, 21, 21, 21, 31
    };

    private final Maze maze = new Maze();
    private final History history = new History();
    private final Opener opener = new Opener();
    private final Ways ways = new Ways();
    private final Walker walker = new Walker();
    private final Text text = new Text();
    private final Moves moves = new Moves();

    public WordMaze() {
        maze.state.letters.put(0, 'H');
        maze.state.letters.put(1, 'I');
        maze.state.size = 2;
        maze.beginAnew();
    }

    // ---- the shape

    public int word() {
        if (!text.isWord()) {
            return NOT_POSSIBLE;
        }
        history.keep(maze.state);
        maze.state.letters.take(text.codes);
        maze.state.size = text.length;
        maze.beginAnew();
        return maze.shape.roomCount;
    }

    public int letterOf(int room) {
        if (!maze.shape.holds(room)) {
            return INVALID_ARGUMENT;
        }
        int owner = maze.shape.owners.at(room);
        return owner == BASE ? NOT_FOUND : owner - FIRST_LETTER;
    }

    public int letter(int letter, int what) {
        if (letter < 0 || what < 0 || what > 4) {
            return INVALID_ARGUMENT;
        }
        if (letter >= maze.state.size) {
            return NOT_FOUND;
        }
        int owner = FIRST_LETTER + letter;
        switch (what) {
            case 0: return maze.state.letters.at(letter);
            case 1: return maze.shape.roomsOf(owner);
            case 2: return maze.doorsBetween(owner, owner, false);
            case 3: return maze.doorsBetween(owner, owner, true);
            default: return maze.doorsBetween(owner, BASE, true);
        }
    }

    public int isRoom(int cell) {
        if (cell < 0 || cell >= maze.shape.cellCount) {
            return INVALID_ARGUMENT;
        }
        return maze.shape.holds(cell) ? 1 : 0;
    }

    // ---- doors

    public int make(int seed) {
        if (seed < 0 || seed > MOST_SEED) {
            return INVALID_ARGUMENT;
        }
        history.keep(maze.state);
        return opener.openFrom(maze, seed);
    }

    public int door(int room, int direction, int open) {
        if (!maze.shape.holds(room) || !isDirection(direction) || open < 0 || open > 1) {
            return INVALID_ARGUMENT;
        }
        if (!maze.shape.hasDoor(room, direction)) {
            return NOT_FOUND;
        }
        history.keep(maze.state);
        boolean before = maze.isOpen(room, direction);
        maze.setDoor(room, direction, open == 1);
        return before ? 1 : 0;
    }

    public int doors(int room) {
        return maze.shape.holds(room) ? maze.state.open.at(room) : INVALID_ARGUMENT;
    }

    public int count(int what) {
        switch (what) {
            case 0: return maze.state.size;
            case 1: return maze.shape.width;
            case 2: return maze.shape.roomCount;
            case 3: return maze.shape.doorCount;
            case 4: return maze.openCount();
            case 5: return ways.findParts(maze);
            case 6: return ways.loopCount(maze);
            case 7: return ways.isSingle(maze) ? 1 : 0;
            case 8: return maze.roomsWithDoors(1, 1);
            case 9: return maze.roomsWithDoors(3, 4);
            case 10: return maze.state.start;
            case 11: return maze.state.goal;
            case 12: return maze.signCount(false);
            case 13: return maze.signCount(true);
            case 14: return history.length;
            case 15: return text.length;
            default: return INVALID_ARGUMENT;
        }
    }

    public int part(int room) {
        if (!maze.shape.holds(room)) {
            return INVALID_ARGUMENT;
        }
        ways.findParts(maze);
        return ways.parts.at(room);
    }

    // ---- ways

    public int start(int room) {
        if (!maze.shape.holds(room)) {
            return INVALID_ARGUMENT;
        }
        history.keep(maze.state);
        int before = maze.state.start;
        maze.state.start = room;
        return before;
    }

    public int goal(int room) {
        if (!maze.shape.holds(room)) {
            return INVALID_ARGUMENT;
        }
        history.keep(maze.state);
        int before = maze.state.goal;
        maze.state.goal = room;
        return before;
    }

    public int distance(int a, int b) {
        if (!maze.shape.holds(a) || !maze.shape.holds(b)) {
            return INVALID_ARGUMENT;
        }
        ways.spread(maze, b);
        int found = ways.distances.at(a);
        return found == NONE ? NOT_FOUND : found;
    }

    public int again(int a, int b) {
        if (!maze.shape.holds(a) || !maze.shape.holds(b)) {
            return INVALID_ARGUMENT;
        }
        if (!ways.isSingle(maze)) {
            return NOT_POSSIBLE;
        }
        ways.spread(maze, maze.shape.lowest);
        int meeting = ways.meeting(maze, a, b);
        return ways.distances.at(a) + ways.distances.at(b) - 2 * ways.distances.at(meeting);
    }

    public int way(int a, int b, int index) {
        if (!maze.shape.holds(a) || !maze.shape.holds(b) || index < 0) {
            return INVALID_ARGUMENT;
        }
        ways.spread(maze, b);
        if (index > ways.distances.at(a)) {
            return NOT_FOUND;
        }
        return ways.roomAhead(maze, a, index);
    }

    public int farthest(int room, int what) {
        if (!maze.shape.holds(room) || what < 0 || what > 1) {
            return INVALID_ARGUMENT;
        }
        ways.spread(maze, room);
        int found = ways.farthestRoom(maze);
        return what == 0 ? found : ways.distances.at(found);
    }

    public int longest(int what) {
        if (what < 0 || what > 2) {
            return INVALID_ARGUMENT;
        }
        ways.findLongest(maze);
        switch (what) {
            case 0: return ways.longestDistance;
            case 1: return ways.longestFirst;
            default: return ways.longestOther;
        }
    }

    public int grade() {
        ways.spread(maze, maze.state.goal);
        int length = ways.distances.at(maze.state.start);
        if (length == NONE) {
            return NOT_FOUND;
        }
        int forks = ways.forksAhead(maze, maze.state.start);
        int aside = ways.reached - (length + 1);
        return Math.min((length + 4 * forks + aside / 2) / 10, HIGHEST_GRADE);
    }

    // ---- signs

    public int sign(int room, int kind, int direction) {
        if (!maze.shape.holds(room) || !isSign(kind, direction)) {
            return INVALID_ARGUMENT;
        }
        if (!maze.hasSign(room) && maze.signCount(false) >= MOST_SIGNS) {
            return LIMIT_REACHED;
        }
        history.keep(maze.state);
        maze.putSign(room, kind, direction);
        return maze.signCount(false);
    }

    public int unsign(int room) {
        if (!maze.shape.holds(room)) {
            return INVALID_ARGUMENT;
        }
        if (!maze.hasSign(room)) {
            return NOT_FOUND;
        }
        history.keep(maze.state);
        int kind = maze.signKind(room);
        maze.removeSign(room);
        return kind;
    }

    public int points(int room) {
        if (!maze.shape.holds(room)) {
            return INVALID_ARGUMENT;
        }
        if (!maze.signCounts(room)) {
            return NOT_POSSIBLE;
        }
        ways.spread(maze, maze.state.goal);
        int direction = ways.signDirection(maze, room);
        return direction == NONE ? NOT_FOUND : direction;
    }

    public int walk(int steps, int what) {
        if (steps < 0 || steps > MOST_STEPS || what < 0 || what > 2) {
            return INVALID_ARGUMENT;
        }
        walker.go(maze, ways, steps);
        switch (what) {
            case 0: return walker.room;
            case 1: return walker.steps;
            default: return walker.different;
        }
    }

    public int walked() {
        walker.go(maze, ways, MOST_STEPS);
        return walker.room == maze.state.goal ? walker.steps : NOT_FOUND;
    }

    public int undo() {
        if (history.length == 0) {
            return NOT_POSSIBLE;
        }
        history.restore(maze.state);
        maze.shape.build(maze.state);
        return history.length;
    }

    // ---- texts

    public int type(int character) {
        if (character < LOWEST_CHARACTER || character > HIGHEST_CHARACTER) {
            return INVALID_ARGUMENT;
        }
        if (text.length >= MOST_CHARACTERS) {
            return LIMIT_REACHED;
        }
        text.codes.put(text.length, character);
        text.length++;
        return text.length;
    }

    public int clearText() {
        int before = text.length;
        text.length = 0;
        return before;
    }

    public int fault(int what) {
        if (what < 0 || what > 1) {
            return INVALID_ARGUMENT;
        }
        moves.read(maze, text);
        if (moves.reason == Moves.NO_FAULT) {
            return NOT_FOUND;
        }
        return what == 0 ? moves.index : moves.reason;
    }

    public int moved() {
        moves.read(maze, text);
        return moves.room;
    }

    private static boolean isDirection(int direction) {
        return direction >= 0 && direction < DIRECTIONS;
    }

    private static boolean isSign(int kind, int direction) {
        if (kind == FIXED_SIGN) {
            return isDirection(direction);
        }
        return kind >= 0 && kind < FIXED_SIGN && direction == 0;
    }

    private static int opposite(int direction) {
        return (direction + 2) % DIRECTIONS;
    }

    /** A row of numbers that can be asked at any index: outside of it all is zero and stays so. */
    private static final class Row {
        private final int[] values;

        Row(int length) {
            values = new int[Math.max(length, 0)];
        }

        int at(int index) {
            return index >= 0 && index < values.length ? values[index] : 0;
        }

        void put(int index, int value) {
            if (index >= 0 && index < values.length) {
                values[index] = value;
            }
        }

        void fill(int value) {
            Arrays.fill(values, value);
        }

        void take(Row other) {
            System.arraycopy(other.values, 0, values, 0, Math.min(other.values.length, values.length));
        }
    }

    /** All that the history keeps; the shape follows from the letters. */
    private static final class State {
        final Row letters = new Row(MOST_LETTERS);
        /** For each cell the mask of its open directions, so that each open door stands at both of its rooms. */
        final Row open = new Row(MOST_CELLS);
        /** For each cell 0, or 1 + 4 * kind + direction of its sign. */
        final Row signs = new Row(MOST_CELLS);
        int size;
        int start;
        int goal;

        void take(State other) {
            letters.take(other.letters);
            open.take(other.open);
            signs.take(other.signs);
            size = other.size;
            start = other.start;
            goal = other.goal;
        }
    }

    /** The states before the latest changes; its objects are used again, so that no change makes new ones. */
    private static final class History {
        private final State[] states = new State[MOST_STATES];
        int length;

        History() {
            for (int k = 0; k < states.length; k++) {
                states[k] = new State();
            }
        }

        void keep(State now) {
            if (length >= states.length) {
                dropOldest();
            }
            State slot = slot(length);
            if (slot != null) {
                slot.take(now);
                length++;
            }
        }

        void restore(State now) {
            State slot = slot(length - 1);
            if (slot != null) {
                now.take(slot);
                length--;
            }
        }

        private State slot(int index) {
            return index >= 0 && index < states.length ? states[index] : null;
        }

        private void dropOldest() {
            State oldest = slot(0);
            for (int k = 1; k < states.length; k++) {
                states[k - 1] = states[k];
            }
            if (states.length > 0) {
                states[states.length - 1] = oldest;
                length = states.length - 1;
            }
        }
    }

    /** The rooms that the word makes. */
    private static final class Shape {
        final Row owners = new Row(MOST_CELLS);
        int width;
        int cellCount;
        int roomCount;
        int doorCount;
        int lowest;

        void build(State state) {
            width = LETTER_PITCH * state.size - 1;
            cellCount = (LETTER_SIDE + 1) * width;
            owners.fill(NO_ROOM);
            for (int place = 0; place < state.size && place < MOST_LETTERS; place++) {
                layLetter(place, state.letters.at(place));
            }
            for (int column = 0; column < width && column < MOST_WIDTH; column++) {
                owners.put(baseCell() + column, BASE);
            }
            countRoomsAndDoors();
        }

        private void layLetter(int place, int code) {
            for (int row = 0; row < LETTER_SIDE; row++) {
                int pattern = patternRow(code, row);
                for (int column = 0; column < LETTER_SIDE; column++) {
                    if (((pattern >> (LETTER_SIDE - 1 - column)) & 1) == 1) {
                        owners.put(row * width + LETTER_PITCH * place + column, FIRST_LETTER + place);
                    }
                }
            }
        }

        private static int patternRow(int code, int row) {
            int index = LETTERS.indexOf((char) code) * LETTER_SIDE + row;
            return index >= 0 && index < PATTERNS.length ? PATTERNS[index] : 0;
        }

        private void countRoomsAndDoors() {
            roomCount = 0;
            doorCount = 0;
            lowest = NONE;
            for (int cell = 0; cell < MOST_CELLS; cell++) {
                if (holds(cell)) {
                    roomCount++;
                    lowest = lowest == NONE ? cell : lowest;
                    doorCount += hasDoor(cell, RIGHT) ? 1 : 0;
                    doorCount += hasDoor(cell, DOWN) ? 1 : 0;
                }
            }
        }

        int baseCell() {
            return LETTER_SIDE * width;
        }

        boolean holds(int cell) {
            return owners.at(cell) != NO_ROOM;
        }

        int roomsOf(int owner) {
            int found = 0;
            for (int cell = 0; cell < MOST_CELLS; cell++) {
                if (owners.at(cell) == owner) {
                    found++;
                }
            }
            return found;
        }

        /** How much a cell's number grows by a step. */
        int stride(int direction) {
            switch (direction) {
                case RIGHT: return 1;
                case DOWN: return width;
                case LEFT: return -1;
                default: return -width;
            }
        }

        /** The room in a direction of a room, or NONE. */
        int beside(int room, int direction) {
            int column = width > 0 ? room % width : 0;
            if ((direction == RIGHT && column == width - 1) || (direction == LEFT && column == 0)) {
                return NONE;
            }
            int next = room + stride(direction);
            return holds(next) ? next : NONE;
        }

        boolean hasDoor(int cell, int direction) {
            return holds(cell) && beside(cell, direction) != NONE;
        }
    }

    /** The shape with its present doors and signs. */
    private static final class Maze {
        final Shape shape = new Shape();
        final State state = new State();

        /** What a new word begins with; the letters stand in the state already. */
        void beginAnew() {
            shape.build(state);
            state.open.fill(0);
            state.signs.fill(0);
            state.start = shape.baseCell();
            state.goal = shape.lowest;
        }

        boolean isOpen(int room, int direction) {
            return ((state.open.at(room) >> direction) & 1) == 1;
        }

        int openDoors(int room) {
            return Integer.bitCount(state.open.at(room));
        }

        boolean isFork(int room) {
            return openDoors(room) >= 3;
        }

        void setDoor(int room, int direction, boolean open) {
            setSide(room, direction, open);
            setSide(room + shape.stride(direction), opposite(direction), open);
        }

        private void setSide(int room, int direction, boolean open) {
            int bit = 1 << direction;
            int mask = state.open.at(room);
            state.open.put(room, open ? mask | bit : mask & ~bit);
        }

        int openCount() {
            int sides = 0;
            for (int cell = 0; cell < MOST_CELLS; cell++) {
                sides += openDoors(cell);
            }
            return sides / 2;
        }

        /** The doors from a first room of an owner to a second room of an owner. */
        int doorsBetween(int firstOwner, int secondOwner, boolean openOnly) {
            int found = 0;
            for (int cell = 0; cell < MOST_CELLS; cell++) {
                for (int direction = RIGHT; direction <= DOWN; direction++) {
                    if (shape.owners.at(cell) == firstOwner
                            && shape.owners.at(shape.beside(cell, direction)) == secondOwner
                            && (!openOnly || isOpen(cell, direction))) {
                        found++;
                    }
                }
            }
            return found;
        }

        int roomsWithDoors(int least, int most) {
            int found = 0;
            for (int cell = 0; cell < MOST_CELLS; cell++) {
                int doors = openDoors(cell);
                if (doors >= least && doors <= most) {
                    found++;
                }
            }
            return found;
        }

        boolean hasSign(int room) {
            return state.signs.at(room) != 0;
        }

        boolean signCounts(int room) {
            return hasSign(room) && isFork(room);
        }

        int signKind(int room) {
            return (state.signs.at(room) - 1) >> 2;
        }

        int signOwnDirection(int room) {
            return (state.signs.at(room) - 1) & 3;
        }

        void putSign(int room, int kind, int direction) {
            state.signs.put(room, 1 + DIRECTIONS * kind + direction);
        }

        void removeSign(int room) {
            state.signs.put(room, 0);
        }

        int signCount(boolean countingOnly) {
            int found = 0;
            for (int cell = 0; cell < MOST_CELLS; cell++) {
                if (countingOnly ? signCounts(cell) : hasSign(cell)) {
                    found++;
                }
            }
            return found;
        }
    }

    private static final class Opener {
        /** Doors as 4 * first room + direction. */
        private final Row order = new Row(MOST_DOORS);
        private final Row labels = new Row(MOST_CELLS);
        private int z;

        /** Answers how many doors are open then. */
        int openFrom(Maze maze, int seed) {
            maze.state.open.fill(0);
            z = seed;
            int doors = listDoors(maze);
            shuffle(doors);
            for (int cell = 0; cell < MOST_CELLS; cell++) {
                labels.put(cell, cell);
            }
            int opened = 0;
            for (int k = 0; k < doors && k < MOST_DOORS; k++) {
                int room = order.at(k) >> 2;
                int direction = order.at(k) & 3;
                if (join(room, room + maze.shape.stride(direction))) {
                    maze.setDoor(room, direction, true);
                    opened++;
                }
            }
            return opened;
        }

        private int listDoors(Maze maze) {
            int doors = 0;
            for (int cell = 0; cell < MOST_CELLS; cell++) {
                for (int direction = RIGHT; direction <= DOWN; direction++) {
                    if (maze.shape.hasDoor(cell, direction)) {
                        order.put(doors, DIRECTIONS * cell + direction);
                        doors++;
                    }
                }
            }
            return doors;
        }

        private void shuffle(int doors) {
            for (int k = doors - 1; k >= 1; k--) {
                int other = drawBelow(k + 1);
                int kept = order.at(k);
                order.put(k, order.at(other));
                order.put(other, kept);
            }
        }

        private int drawBelow(int bound) {
            z = (75 * z + 74) % 65537;
            return bound > 0 ? z % bound : 0;
        }

        /** Gives both rooms' parts one label; answers whether they were two parts. */
        private boolean join(int room, int other) {
            int kept = labels.at(room);
            int gone = labels.at(other);
            if (kept == gone) {
                return false;
            }
            for (int cell = 0; cell < MOST_CELLS; cell++) {
                if (labels.at(cell) == gone) {
                    labels.put(cell, kept);
                }
            }
            return true;
        }
    }

    /** Distances from one room at a time, and all that is found by them. */
    private static final class Ways {
        final Row distances = new Row(MOST_CELLS);
        final Row parts = new Row(MOST_CELLS);
        private final Row queue = new Row(MOST_CELLS);
        int reached;
        int longestDistance;
        int longestFirst;
        int longestOther;

        /** Finds the distance of each room from one room; NONE where there is no way. */
        void spread(Maze maze, int from) {
            distances.fill(NONE);
            reached = 0;
            reach(from, 0);
            for (int head = 0; head < reached && head < MOST_CELLS; head++) {
                int room = queue.at(head);
                int next = distances.at(room) + 1;
                for (int direction = 0; direction < DIRECTIONS; direction++) {
                    if (maze.isOpen(room, direction)) {
                        reach(room + maze.shape.stride(direction), next);
                    }
                }
            }
        }

        private void reach(int room, int distance) {
            if (distances.at(room) == NONE) {
                distances.put(room, distance);
                queue.put(reached, room);
                reached++;
            }
        }

        /** Numbers the parts; answers how many there are. */
        int findParts(Maze maze) {
            parts.fill(NONE);
            int found = 0;
            for (int cell = 0; cell < MOST_CELLS; cell++) {
                if (maze.shape.holds(cell) && parts.at(cell) == NONE) {
                    spread(maze, cell);
                    for (int k = 0; k < reached && k < MOST_CELLS; k++) {
                        parts.put(queue.at(k), found);
                    }
                    found++;
                }
            }
            return found;
        }

        int loopCount(Maze maze) {
            return maze.openCount() - maze.shape.roomCount + findParts(maze);
        }

        boolean isSingle(Maze maze) {
            return loopCount(maze) == 0 && findParts(maze) == 1;
        }

        /** The first direction of the way to the room of the last spread; NONE in it, or if there is no way. */
        int firstDirection(Maze maze, int room) {
            int nearer = distances.at(room) - 1;
            if (nearer < 0) {
                return NONE;
            }
            for (int direction = 0; direction < DIRECTIONS; direction++) {
                if (maze.isOpen(room, direction)
                        && distances.at(room + maze.shape.stride(direction)) == nearer) {
                    return direction;
                }
            }
            return NONE;
        }

        /** The next room on the way to the room of the last spread; the same room if there is none. */
        private int nextRoom(Maze maze, int room) {
            int direction = firstDirection(maze, room);
            return direction == NONE ? room : room + maze.shape.stride(direction);
        }

        int roomAhead(Maze maze, int from, int steps) {
            int room = from;
            for (int k = 0; k < steps && k < MOST_CELLS; k++) {
                room = nextRoom(maze, room);
            }
            return room;
        }

        /** The forks on the way to the room of the last spread, without this room. */
        int forksAhead(Maze maze, int from) {
            int forks = 0;
            int room = from;
            for (int k = distances.at(from); k > 0; k--) {
                if (maze.isFork(room)) {
                    forks++;
                }
                room = nextRoom(maze, room);
            }
            return forks;
        }

        /** Of the rooms on both ways to the room of the last spread, the farthest one; for a single maze. */
        int meeting(Maze maze, int a, int b) {
            int one = a;
            int other = b;
            for (int k = 0; k < 2 * MOST_CELLS && one != other; k++) {
                if (distances.at(one) >= distances.at(other)) {
                    one = nextRoom(maze, one);
                } else {
                    other = nextRoom(maze, other);
                }
            }
            return one;
        }

        /** The lowest room of those with the greatest distance in the last spread. */
        int farthestRoom(Maze maze) {
            int found = NONE;
            int greatest = NONE;
            for (int cell = 0; cell < MOST_CELLS; cell++) {
                if (maze.shape.holds(cell) && distances.at(cell) > greatest) {
                    found = cell;
                    greatest = distances.at(cell);
                }
            }
            return found;
        }

        /** As rooms are taken in ascending order, the first pair found is the one with the lowest rooms. */
        void findLongest(Maze maze) {
            longestDistance = NONE;
            for (int cell = 0; cell < MOST_CELLS; cell++) {
                if (maze.shape.holds(cell)) {
                    spread(maze, cell);
                    int other = farthestRoom(maze);
                    if (distances.at(other) > longestDistance) {
                        longestDistance = distances.at(other);
                        longestFirst = cell;
                        longestOther = other;
                    }
                }
            }
        }

        /** Where a sign that counts points, or NONE; the last spread must be from the goal. */
        int signDirection(Maze maze, int room) {
            int kind = maze.signKind(room);
            if (kind == FIXED_SIGN) {
                int own = maze.signOwnDirection(room);
                return maze.isOpen(room, own) ? own : NONE;
            }
            int first = firstDirection(maze, room);
            return (first == NONE || kind == TRUE_SIGN) ? first : openBehind(maze, room, first);
        }

        private int openBehind(Maze maze, int room, int direction) {
            for (int turn = 1; turn < DIRECTIONS; turn++) {
                int next = (direction + turn) % DIRECTIONS;
                if (maze.isOpen(room, next)) {
                    return next;
                }
            }
            return direction;
        }
    }

    /** Goes from the start towards the goal, by signs and else by its own rule. */
    private static final class Walker {
        private final Row visited = new Row(MOST_CELLS);
        private int comingFrom;
        int room;
        int steps;
        int different;

        void go(Maze maze, Ways ways, int most) {
            ways.spread(maze, maze.state.goal);
            visited.fill(0);
            steps = 0;
            different = 0;
            comingFrom = DOWN;
            enter(maze.state.start);
            for (int k = 0; k < most && room != maze.state.goal; k++) {
                int direction = choose(maze, ways);
                if (direction == NONE) {
                    break;
                }
                steps++;
                comingFrom = opposite(direction);
                enter(room + maze.shape.stride(direction));
            }
        }

        private void enter(int next) {
            room = next;
            if (visited.at(next) == 0) {
                visited.put(next, 1);
                different++;
            }
        }

        private int choose(Maze maze, Ways ways) {
            int shown = maze.signCounts(room) ? ways.signDirection(maze, room) : NONE;
            return shown == NONE ? chooseWithoutSign(maze) : shown;
        }

        private int chooseWithoutSign(Maze maze) {
            for (int turn = 1; turn <= DIRECTIONS; turn++) {
                int direction = (comingFrom + turn) % DIRECTIONS;
                if (maze.isOpen(room, direction)) {
                    return direction;
                }
            }
            return NONE;
        }
    }

    /** The typed characters by their codes. */
    private static final class Text {
        final Row codes = new Row(MOST_CHARACTERS);
        int length;

        boolean isWord() {
            if (length < 1 || length > MOST_LETTERS) {
                return false;
            }
            for (int k = 0; k < length; k++) {
                if (LETTERS.indexOf((char) codes.at(k)) < 0) {
                    return false;
                }
            }
            return true;
        }
    }

    /** Reads the text as moves, up to its fault. */
    private static final class Moves {
        static final int NO_FAULT = 0;
        private static final int NO_MOVE = 1;
        private static final int NO_ROOM_THERE = 2;
        private static final int CLOSED_DOOR = 3;
        private static final int ONE_TOO_MANY = 4;
        private static final int GOAL_NOT_REACHED = 5;

        int index;
        int reason;
        int room;

        void read(Maze maze, Text text) {
            room = maze.state.start;
            for (index = 0; index < text.length && index < MOST_CHARACTERS; index++) {
                int direction = MOVES.indexOf((char) text.codes.at(index));
                reason = reasonAgainst(maze, direction);
                if (reason != NO_FAULT) {
                    return;
                }
                room += maze.shape.stride(direction);
            }
            reason = room == maze.state.goal ? NO_FAULT : GOAL_NOT_REACHED;
        }

        private int reasonAgainst(Maze maze, int direction) {
            if (direction < 0) {
                return NO_MOVE;
            }
            if (!maze.shape.hasDoor(room, direction)) {
                return NO_ROOM_THERE;
            }
            if (!maze.isOpen(room, direction)) {
                return CLOSED_DOOR;
            }
            return room == maze.state.goal ? ONE_TOO_MANY : NO_FAULT;
        }
    }
}
