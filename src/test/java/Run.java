import java.util.ArrayList;
import java.util.List;

/**
 * A board and a model that get the same calls and owe the same answers.
 * An object is promised for 512 calls alone: when they are used up, a new board gets the calls
 * that change something once more and answers in the old one's place.
 */
final class Run {
    static final int PROMISED_CALLS = 512;

    private static final int COIN = 0;
    private static final int START = 1;
    private static final int STICK = 2;
    private static final int KICK = 3;
    private static final int FRAMES = 4;

    final Model model = new Model();
    private final Check check;
    private final String name;
    private final List<int[]> script = new ArrayList<>();
    private MazeBoard board = new MazeBoard();
    private int used = 0;

    Run(Check check, String name) {
        this.check = check;
        this.name = name;
    }

    /** How many of the promised calls are left for calls that change something. */
    int callsLeft() {
        return PROMISED_CALLS - script.size();
    }

    void coin() {
        change(COIN, 0, "coin()", model.coin() ? 1 : 0);
    }

    void start() {
        change(START, 0, "start()", model.start() ? 1 : 0);
    }

    void stick(int direction) {
        change(STICK, direction, "stick(" + direction + ")", model.stick(direction) ? 1 : 0);
    }

    void kick() {
        model.kick();
        change(KICK, 0, "kick()", 0);
    }

    void frames(int n) {
        change(FRAMES, n, "frames(" + n + ")", model.frames(n));
    }

    private void change(int call, int argument, String text, int due) {
        MazeBoard asked = ask();
        int[] entry = {call, argument};
        script.add(entry);
        check.due(at(text), apply(asked, entry), due);
    }

    private static int apply(MazeBoard board, int[] entry) {
        switch (entry[0]) {
            case COIN: return board.coin() ? 1 : 0;
            case START: return board.start() ? 1 : 0;
            case STICK: return board.stick(entry[1]) ? 1 : 0;
            case FRAMES: return board.frames(entry[1]);
            default:
                board.kick();
                return 0;
        }
    }

    private MazeBoard ask() {
        if (used == PROMISED_CALLS) {
            if (callsLeft() == 0) {
                throw new IllegalStateException(name + " asks more of a board than is promised");
            }
            board = new MazeBoard();
            for (int[] entry : script) {
                apply(board, entry);
            }
            used = script.size();
        }
        used++;
        return board;
    }

    /** What look, actor, progress, volume and sound answer. */
    void compareState() {
        for (int what = -1; what <= 12; what++) {
            check.due(at("look(" + what + ")"), ask().look(what), model.look(what));
        }
        for (int actor = -1; actor <= 5; actor++) {
            for (int what = -1; what <= 6; what++) {
                check.due(at("actor(" + actor + ", " + what + ")"), ask().actor(actor, what), model.actor(actor, what));
            }
            check.due(at("progress(" + actor + ")"), ask().progress(actor), model.progress(actor));
        }
        for (int voice = -1; voice <= 3; voice++) {
            check.due(at("volume(" + voice + ")"), ask().volume(voice), model.volume(voice));
        }
        check.due(at("sound()"), ask().sound(), model.sound());
    }

    void compareMaze() {
        for (int column = -1; column <= 13; column++) {
            for (int row = -1; row <= 9; row++) {
                check.due(at("cell(" + column + ", " + row + ")"), ask().cell(column, row), model.cell(column, row));
            }
        }
    }

    void comparePicture() {
        int[][] picture = model.picture();
        for (int x = -1; x <= 52; x++) {
            for (int y = -1; y <= 36; y++) {
                boolean inside = x >= 0 && x < 52 && y >= 0 && y < 36;
                check.due(at("point(" + x + ", " + y + ")"), ask().point(x, y), inside ? picture[y][x] : -1);
            }
        }
    }

    private String at(String call) {
        return name + ", frame " + model.count + ": " + call;
    }
}
