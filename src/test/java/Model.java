import java.util.ArrayList;
import java.util.Collections;
import java.util.HashMap;
import java.util.HashSet;
import java.util.List;
import java.util.Map;
import java.util.Set;
import java.util.TreeMap;

/**
 * The document once more, built in other ways than the class: drawn shapes, sets of open doors, whole copies
 * in the history, and distances of all pairs of rooms at once.
 */
final class Model {
    static final String[] SHAPES = {
        "A 31 17 31 17 17", "C 31 16 16 16 31", "E 31 16 30 16 31", "F 31 16 30 16 16", "G 31 16 23 17 31",
        "H 17 17 31 17 17", "I 4 4 4 4 4", "L 16 16 16 16 31", "M 31 21 21 21 21", "O 31 17 17 17 31",
        "P 31 17 31 16 16", "S 31 16 31 1 31", "T 31 4 4 4 4", "U 17 17 17 17 31", "W 21 21 21 21 31"
    };
    static final String KNOWN = "ACEFGHILMOPSTUW";
    private static final int FAR = 1000000;

    private String word = "HI";
    private Set<List<Integer>> open = new HashSet<>();
    private int start;
    private int goal;
    private Map<Integer, int[]> signs = new TreeMap<>();
    private final List<Object[]> history = new ArrayList<>();
    private String text = "";

    private int width;
    private String drawing;
    private List<Integer> rooms;
    private List<List<Integer>> doors;
    private int[][] distances;

    Model() {
        draw();
        start = 5 * width;
        goal = rooms.get(0);
    }

    List<Integer> rooms() {
        return rooms;
    }

    List<List<Integer>> allDoors() {
        return doors;
    }

    int width() {
        return width;
    }

    private void draw() {
        width = 6 * word.length() - 1;
        StringBuilder cells = new StringBuilder();
        for (int row = 0; row < 5; row++) {
            for (int k = 0; k < word.length(); k++) {
                String[] shape = SHAPES[KNOWN.indexOf(word.charAt(k))].split(" ");
                String bits = Integer.toBinaryString(32 + Integer.parseInt(shape[row + 1])).substring(1);
                cells.append(k == 0 ? "" : "0").append(bits);
            }
        }
        cells.append("1".repeat(width));
        drawing = cells.toString();
        rooms = new ArrayList<>();
        doors = new ArrayList<>();
        for (int cell = 0; cell < drawing.length(); cell++) {
            if (room(cell)) {
                rooms.add(cell);
            }
        }
        for (int cell : rooms) {
            if (next(cell, 1) >= 0) {
                doors.add(List.of(cell, next(cell, 1)));
            }
            if (next(cell, 2) >= 0) {
                doors.add(List.of(cell, next(cell, 2)));
            }
        }
        distances = null;
    }

    boolean room(int cell) {
        return cell >= 0 && cell < drawing.length() && drawing.charAt(cell) == '1';
    }

    int next(int cell, int direction) {
        int row = cell / width + new int[] {-1, 0, 1, 0}[direction];
        int column = cell % width + new int[] {0, 1, 0, -1}[direction];
        boolean inside = row >= 0 && row < 6 && column >= 0 && column < width;
        return inside && room(row * width + column) ? row * width + column : -1;
    }

    private boolean isOpen(int cell, int direction) {
        int other = next(cell, direction);
        return other >= 0 && open.contains(List.of(Math.min(cell, other), Math.max(cell, other)));
    }

    int mask(int cell) {
        int mask = 0;
        for (int direction = 0; direction < 4; direction++) {
            mask += isOpen(cell, direction) ? 1 << direction : 0;
        }
        return mask;
    }

    private boolean fork(int cell) {
        return Integer.bitCount(mask(cell)) > 2;
    }

    private int apart(int a, int b) {
        if (distances == null) {
            measureAll();
        }
        return distances[a][b];
    }

    private void measureAll() {
        int size = drawing.length();
        distances = new int[size][size];
        for (int a : rooms) {
            java.util.Arrays.fill(distances[a], FAR);
            distances[a][a] = 0;
        }
        for (List<Integer> door : open) {
            distances[door.get(0)][door.get(1)] = 1;
            distances[door.get(1)][door.get(0)] = 1;
        }
        for (int by : rooms) {
            for (int a : rooms) {
                if (distances[a][by] < FAR) {
                    for (int b : rooms) {
                        distances[a][b] = Math.min(distances[a][b], distances[a][by] + distances[by][b]);
                    }
                }
            }
        }
    }

    private void keep() {
        Map<Integer, int[]> copy = new TreeMap<>(signs);
        history.add(new Object[] {word, new HashSet<>(open), start, goal, copy});
        if (history.size() > 5) {
            history.remove(0);
        }
    }

    int word() {
        if (!text.matches("[" + KNOWN + "]{1,6}")) {
            return -2;
        }
        keep();
        word = text;
        draw();
        open.clear();
        signs.clear();
        start = 5 * width;
        goal = rooms.get(0);
        return rooms.size();
    }

    int letterOf(int cell) {
        if (!room(cell)) {
            return -1;
        }
        return cell >= 5 * width ? -4 : cell % width / 6;
    }

    int letter(int letter, int what) {
        if (letter < 0 || what < 0 || what > 4) {
            return -1;
        }
        if (letter >= word.length()) {
            return -4;
        }
        int[] found = {word.charAt(letter), 0, 0, 0, 0};
        for (int cell : rooms) {
            found[1] += letterOf(cell) == letter ? 1 : 0;
        }
        for (List<Integer> door : doors) {
            boolean first = letterOf(door.get(0)) == letter;
            boolean inside = first && letterOf(door.get(1)) == letter;
            boolean below = first && letterOf(door.get(1)) == -4;
            found[2] += inside ? 1 : 0;
            found[3] += inside && open.contains(door) ? 1 : 0;
            found[4] += below && open.contains(door) ? 1 : 0;
        }
        return found[what];
    }

    int isRoom(int cell) {
        if (cell < 0 || cell >= 6 * width) {
            return -1;
        }
        return room(cell) ? 1 : 0;
    }

    int make(int seed) {
        if (seed < 0 || seed > 65535) {
            return -1;
        }
        keep();
        List<List<Integer>> row = new ArrayList<>(doors);
        long z = seed;
        for (int k = row.size() - 1; k >= 1; k--) {
            z = (75 * z + 74) % 65537;
            Collections.swap(row, k, (int) (z % (k + 1)));
        }
        open.clear();
        Map<Integer, Integer> leaders = new HashMap<>();
        for (List<Integer> door : row) {
            int a = leader(leaders, door.get(0));
            int b = leader(leaders, door.get(1));
            if (a != b) {
                leaders.put(a, b);
                open.add(door);
            }
        }
        distances = null;
        return open.size();
    }

    private static int leader(Map<Integer, Integer> leaders, int cell) {
        int at = cell;
        while (leaders.containsKey(at)) {
            at = leaders.get(at);
        }
        return at;
    }

    int door(int cell, int direction, int opened) {
        if (!room(cell) || direction < 0 || direction > 3 || opened < 0 || opened > 1) {
            return -1;
        }
        int other = next(cell, direction);
        if (other < 0) {
            return -4;
        }
        keep();
        distances = null;
        List<Integer> door = List.of(Math.min(cell, other), Math.max(cell, other));
        boolean was = open.remove(door);
        if (opened == 1) {
            open.add(door);
        }
        return was ? 1 : 0;
    }

    int doors(int cell) {
        return room(cell) ? mask(cell) : -1;
    }

    int count(int what) {
        int parts = 0;
        int ends = 0;
        int forks = 0;
        int counting = 0;
        for (int cell : rooms) {
            parts = Math.max(parts, part(cell) + 1);
            ends += Integer.bitCount(mask(cell)) == 1 ? 1 : 0;
            forks += fork(cell) ? 1 : 0;
            counting += fork(cell) && signs.containsKey(cell) ? 1 : 0;
        }
        int loops = open.size() - rooms.size() + parts;
        int single = parts == 1 && loops == 0 ? 1 : 0;
        int[] all = {word.length(), width, rooms.size(), doors.size(), open.size(), parts, loops, single, ends,
            forks, start, goal, signs.size(), counting, history.size(), text.length()};
        return what < 0 || what >= all.length ? -1 : all[what];
    }

    int part(int cell) {
        if (!room(cell)) {
            return -1;
        }
        int part = -1;
        for (int other : rooms) {
            boolean lowestOfItsPart = true;
            for (int lower : rooms) {
                lowestOfItsPart &= lower >= other || apart(lower, other) == FAR;
            }
            part += lowestOfItsPart ? 1 : 0;
            if (lowestOfItsPart && apart(other, cell) < FAR) {
                return part;
            }
        }
        throw new IllegalStateException("each room has a part");
    }

    int start(int cell) {
        if (!room(cell)) {
            return -1;
        }
        keep();
        int was = start;
        start = cell;
        return was;
    }

    int goal(int cell) {
        if (!room(cell)) {
            return -1;
        }
        keep();
        int was = goal;
        goal = cell;
        return was;
    }

    int distance(int a, int b) {
        if (!room(a) || !room(b)) {
            return -1;
        }
        return apart(a, b) == FAR ? -4 : apart(a, b);
    }

    int again(int a, int b) {
        if (!room(a) || !room(b)) {
            return -1;
        }
        return count(7) == 0 ? -2 : apart(a, b);
    }

    private List<Integer> wayOf(int a, int b) {
        List<Integer> way = new ArrayList<>(List.of(a));
        int at = a;
        while (at != b) {
            at = next(at, firstDirection(at, b));
            way.add(at);
        }
        return way;
    }

    private int firstDirection(int a, int b) {
        for (int direction = 0; direction < 4; direction++) {
            if (isOpen(a, direction) && apart(next(a, direction), b) + 1 == apart(a, b)) {
                return direction;
            }
        }
        return -1;
    }

    int way(int a, int b, int index) {
        if (!room(a) || !room(b) || index < 0) {
            return -1;
        }
        if (apart(a, b) == FAR) {
            return -4;
        }
        List<Integer> way = wayOf(a, b);
        return index < way.size() ? way.get(index) : -4;
    }

    int farthest(int cell, int what) {
        if (!room(cell) || what < 0 || what > 1) {
            return -1;
        }
        int far = cell;
        int most = 0;
        for (int k = rooms.size() - 1; k >= 0; k--) {
            int distance = apart(cell, rooms.get(k));
            if (distance < FAR && distance >= most) {
                most = distance;
                far = rooms.get(k);
            }
        }
        return what == 0 ? far : most;
    }

    int longest(int what) {
        if (what < 0 || what > 2) {
            return -1;
        }
        int[] best = {0, rooms.get(0), rooms.get(0)};
        for (int a : rooms) {
            for (int b : rooms) {
                if (a < b && apart(a, b) < FAR && apart(a, b) > best[0]) {
                    best = new int[] {apart(a, b), a, b};
                }
            }
        }
        return best[what];
    }

    int grade() {
        if (apart(start, goal) == FAR) {
            return -4;
        }
        List<Integer> way = wayOf(start, goal);
        int forks = 0;
        int aside = 0;
        for (int cell : rooms) {
            boolean on = way.contains(cell);
            forks += on && cell != goal && fork(cell) ? 1 : 0;
            aside += !on && apart(start, cell) < FAR ? 1 : 0;
        }
        return Math.min(9, (way.size() - 1 + 4 * forks + aside / 2) / 10);
    }

    int sign(int cell, int kind, int direction) {
        if (!room(cell) || kind < 0 || kind > 2 || direction < 0 || direction > (kind == 2 ? 3 : 0)) {
            return -1;
        }
        if (signs.size() == 20 && !signs.containsKey(cell)) {
            return -3;
        }
        keep();
        signs.put(cell, new int[] {kind, direction});
        return signs.size();
    }

    int unsign(int cell) {
        if (!room(cell)) {
            return -1;
        }
        if (!signs.containsKey(cell)) {
            return -4;
        }
        keep();
        return signs.remove(cell)[0];
    }

    int points(int cell) {
        if (!room(cell)) {
            return -1;
        }
        if (!signs.containsKey(cell) || !fork(cell)) {
            return -2;
        }
        int[] sign = signs.get(cell);
        if (sign[0] == 2) {
            return isOpen(cell, sign[1]) ? sign[1] : -4;
        }
        if (cell == goal || apart(cell, goal) == FAR) {
            return -4;
        }
        int direction = firstDirection(cell, goal);
        if (sign[0] == 1) {
            do {
                direction = (direction + 1) % 4;
            } while (!isOpen(cell, direction));
        }
        return direction;
    }

    int walk(int steps, int what) {
        if (steps < 0 || steps > 2000 || what < 0 || what > 2) {
            return -1;
        }
        int at = start;
        int behind = next(start, 2);
        int from = 2;
        int made = 0;
        Set<Integer> seen = new HashSet<>(Set.of(start));
        while (made < steps && at != goal && mask(at) != 0) {
            int to = points(at);
            for (int turn = 1; to < 0 && turn <= 4; turn++) {
                to = isOpen(at, (from + turn) % 4) ? (from + turn) % 4 : to;
            }
            behind = at;
            at = next(at, to);
            for (int direction = 0; direction < 4; direction++) {
                from = next(at, direction) == behind ? direction : from;
            }
            made++;
            seen.add(at);
        }
        return new int[] {at, made, seen.size()}[what];
    }

    int walked() {
        return walk(2000, 0) == goal ? walk(2000, 1) : -4;
    }

    @SuppressWarnings("unchecked")
    int undo() {
        if (history.isEmpty()) {
            return -2;
        }
        Object[] state = history.remove(history.size() - 1);
        word = (String) state[0];
        draw();
        open = (Set<List<Integer>>) state[1];
        start = (Integer) state[2];
        goal = (Integer) state[3];
        signs = (Map<Integer, int[]>) state[4];
        return history.size();
    }

    int type(int character) {
        if (character < 32 || character > 126) {
            return -1;
        }
        if (text.length() == 200) {
            return -3;
        }
        text += (char) character;
        return text.length();
    }

    int clearText() {
        int was = text.length();
        text = "";
        return was;
    }

    /** The index of the fault, its reason (0 for none) and the room ahead of it. */
    private int[] moves() {
        int at = start;
        for (int k = 0; k < text.length(); k++) {
            int direction = "URDL".indexOf(text.charAt(k));
            if (direction < 0) {
                return new int[] {k, 1, at};
            }
            if (next(at, direction) < 0) {
                return new int[] {k, 2, at};
            }
            if (!isOpen(at, direction)) {
                return new int[] {k, 3, at};
            }
            if (at == goal) {
                return new int[] {k, 4, at};
            }
            at = next(at, direction);
        }
        return new int[] {text.length(), at == goal ? 0 : 5, at};
    }

    int fault(int what) {
        if (what < 0 || what > 1) {
            return -1;
        }
        return moves()[1] == 0 ? -4 : moves()[what];
    }

    int moved() {
        return moves()[2];
    }
}
