import java.util.List;

/** Long runs of mixed calls, each answer compared with that of the Model. */
public final class RandomRunsTest {
    private static final String[] NAMES = {
        "word", "letterOf", "letter", "isRoom", "make", "door", "doors", "count", "part", "start", "goal",
        "distance", "again", "way", "farthest", "longest", "grade", "sign", "unsign", "points", "walk", "walked",
        "undo", "type", "clearText", "fault", "moved"
    };
    private static final int[] EXTREMES = {
        Integer.MIN_VALUE, Integer.MIN_VALUE + 1, -65536, -7, -2, -1, 0, 1, 2, 3, 4, 5, 15, 16, 31, 32, 126, 127,
        205, 209, 210, 211, 2000, 2001, 65535, 65536, 65537, Integer.MAX_VALUE - 1, Integer.MAX_VALUE
    };

    /** What an object answers behind so many calls is free. */
    private static final int MOST_CALLS = 512;

    private final Check check = new Check("RandomRunsTest");
    /** For each call how often it answered each error, at last how often none. */
    private final int[][] seen = new int[NAMES.length][5];
    private long state;
    private int made;
    private WordMaze maze;
    private Model model;

    public static void main(String[] args) {
        RandomRunsTest test = new RandomRunsTest();
        for (int run = 1; run <= 600 && !test.check.anyWrong(); run++) {
            test.run(run);
        }
        test.nothingWasLeftOut();
        test.check.end();
    }

    private int below(int bound) {
        state = state * 6364136223846793005L + 1442695040888963407L;
        return (int) ((state >>> 33) % bound);
    }

    private void run(int run) {
        state = run * 77777L;
        maze = new WordMaze();
        model = new Model();
        made = 0;
        boolean mostlyText = run % 5 == 0;
        boolean manySigns = run % 5 == 1;
        while (made < MOST_CALLS) {
            if (below(60) == 0 || made == 3) {
                setWord(run);
            }
            if (below(40) == 0) {
                call(run, 4, below(65536), 0, 0);
            }
            int k = below(NAMES.length);
            if (mostlyText && below(2) == 0) {
                k = 23;
            } else if (manySigns && below(2) == 0) {
                k = 17;
            } else if (k == 24 && mostlyText && below(8) != 0) {
                k = 25;
            } else if (below(6) == 0) {
                k = 5;
            }
            callWithArguments(run, k);
        }
    }

    private void setWord(int run) {
        int length = 1 + below(6);
        call(run, 24, 0, 0, 0);
        for (int k = 0; k < length; k++) {
            call(run, 23, Model.KNOWN.charAt(below(Model.KNOWN.length())), 0, 0);
        }
        call(run, 0, 0, 0, 0);
    }

    private int some(int bound) {
        return below(12) == 0 ? EXTREMES[below(EXTREMES.length)] : below(bound);
    }

    private int someRoom() {
        List<Integer> rooms = model.rooms();
        return below(12) == 0 ? some(215) : rooms.get(below(rooms.size()));
    }

    private void callWithArguments(int run, int k) {
        switch (NAMES[k]) {
            case "letterOf": case "doors": case "part": case "start": case "goal": case "unsign": case "points":
                call(run, k, someRoom(), 0, 0);
                break;
            case "letter":
                call(run, k, some(6), some(5), 0);
                break;
            case "isRoom":
                call(run, k, some(212), 0, 0);
                break;
            case "make":
                call(run, k, some(65536), 0, 0);
                break;
            case "door":
                call(run, k, someRoom(), some(4), below(40) == 0 ? some(2) : Math.min(1, below(4)));
                break;
            case "count":
                call(run, k, some(16), 0, 0);
                break;
            case "distance": case "again":
                call(run, k, someRoom(), someRoom(), 0);
                break;
            case "way":
                call(run, k, someRoom(), someRoom(), some(12));
                break;
            case "farthest":
                call(run, k, someRoom(), some(2), 0);
                break;
            case "longest":
                call(run, k, some(3), 0, 0);
                break;
            case "sign":
                int kind = some(3);
                call(run, k, someRoom(), kind, kind == 2 || below(9) == 0 ? some(4) : 0);
                break;
            case "walk":
                call(run, k, below(2) == 0 ? some(2001) : below(60), some(3), 0);
                break;
            case "type":
                call(run, k, someCharacter(), 0, 0);
                break;
            case "fault":
                call(run, k, some(2), 0, 0);
                break;
            default:
                call(run, k, 0, 0, 0);
        }
    }

    /** Mostly a move that is possible, so that long ways are read too. */
    private int someCharacter() {
        if (below(15) == 0) {
            return some(127);
        }
        int direction = below(4);
        int mask = model.mask(model.moved());
        for (int turn = 0; turn < 4 && below(10) != 0 && (mask >> direction & 1) == 0; turn++) {
            direction = (direction + 1) % 4;
        }
        return "URDL".charAt(direction);
    }

    private void call(int run, int k, int a, int b, int c) {
        if (made >= MOST_CALLS) {
            return;
        }
        made++;
        int answer = ask(k, a, b, c);
        int due = askModel(k, a, b, c);
        seen[k][due < 0 ? -due - 1 : 4]++;
        check.due("run " + run + ": " + NAMES[k] + "(" + a + ", " + b + ", " + c + ")", answer, due);
    }

    private int ask(int k, int a, int b, int c) {
        switch (NAMES[k]) {
            case "word": return maze.word();
            case "letterOf": return maze.letterOf(a);
            case "letter": return maze.letter(a, b);
            case "isRoom": return maze.isRoom(a);
            case "make": return maze.make(a);
            case "door": return maze.door(a, b, c);
            case "doors": return maze.doors(a);
            case "count": return maze.count(a);
            case "part": return maze.part(a);
            case "start": return maze.start(a);
            case "goal": return maze.goal(a);
            case "distance": return maze.distance(a, b);
            case "again": return maze.again(a, b);
            case "way": return maze.way(a, b, c);
            case "farthest": return maze.farthest(a, b);
            case "longest": return maze.longest(a);
            case "grade": return maze.grade();
            case "sign": return maze.sign(a, b, c);
            case "unsign": return maze.unsign(a);
            case "points": return maze.points(a);
            case "walk": return maze.walk(a, b);
            case "walked": return maze.walked();
            case "undo": return maze.undo();
            case "type": return maze.type(a);
            case "clearText": return maze.clearText();
            case "fault": return maze.fault(a);
            default: return maze.moved();
        }
    }

    private int askModel(int k, int a, int b, int c) {
        switch (NAMES[k]) {
            case "word": return model.word();
            case "letterOf": return model.letterOf(a);
            case "letter": return model.letter(a, b);
            case "isRoom": return model.isRoom(a);
            case "make": return model.make(a);
            case "door": return model.door(a, b, c);
            case "doors": return model.doors(a);
            case "count": return model.count(a);
            case "part": return model.part(a);
            case "start": return model.start(a);
            case "goal": return model.goal(a);
            case "distance": return model.distance(a, b);
            case "again": return model.again(a, b);
            case "way": return model.way(a, b, c);
            case "farthest": return model.farthest(a, b);
            case "longest": return model.longest(a);
            case "grade": return model.grade();
            case "sign": return model.sign(a, b, c);
            case "unsign": return model.unsign(a);
            case "points": return model.points(a);
            case "walk": return model.walk(a, b);
            case "walked": return model.walked();
            case "undo": return model.undo();
            case "type": return model.type(a);
            case "clearText": return model.clearText();
            case "fault": return model.fault(a);
            default: return model.moved();
        }
    }

    /** Each call must have met each of its answers: -1 to -4 as digits 1 to 4, and 5 for no error. */
    private void nothingWasLeftOut() {
        String[] answers = {
            "25", "145", "145", "15", "15", "145", "15", "15", "15", "15", "15", "145", "125", "145", "15", "15",
            "45", "135", "145", "1245", "15", "45", "25", "135", "5", "145", "5"
        };
        for (int k = 0; k < NAMES.length; k++) {
            for (int kind = 1; kind <= 5; kind++) {
                boolean known = answers[k].indexOf('0' + kind) >= 0;
                check.due(NAMES[k] + " met answers of the kind " + kind, seen[k][kind - 1] > 0 ? 1 : 0, known ? 1 : 0);
            }
        }
    }
}
