/** The edges of a frame's step 3, of SCATTER, and of the maze for hunters: promise 6, a test for each sentence. */
public final class EdgesOfHuntersTest {
    private static final String STEP_3 = "Promise 6, step 3";

    /** MODE time, a way to the frame before it, the hunter that chooses then, where it was and where it looks. */
    private static final String[][] MODE_EDGES = {
        {"99", "l10 r20 l15 r15 k d5 r15 u30 d25 k u25 d30 u23", "2", "4,2 u", "4,1 l"},
        {"100", "l10 r20 l20 u5 d10 k l15 u30 d30 k u15 l25 r34", "1", "8,2 u", "8,1 l"},
        {"299", "l10 u5 d10 r5 l5 u10 d10 u10 k l5 u10 d10 u10 d10 u10 d5 k l20 r10 l25 r30 k l30 r35 k l23", "2",
            "5,2 l", "4,2 d"},
        {"300", "r10 l10 r5 l10 r15 l5 r5 k l20 r20 l20 k u5 d5 r20 u5 r5 u10 d5 r20 k l10 r15 u15 d15 l25 k r30 l30 k "
            + "r25 l15 r9", "3", "3,7 r", "4,7 r"},
        {"379", "l10 r10 l10 r15 l15 k r15 l15 r20 l20 k r5 d5 l20 r20 l20 k r20 l20 r15 l15 k u15 l10 r15 l25 k r30 l30 "
            + "k r25 l25 r18", "1", "8,3 u", "8,2 u"},
        {"380", "l10 r15 l15 r15 n5 k l20 r20 l20 k u5 l5 r5 d5 r20 d5 u10 r5 k u5 r20 l10 r20 l30 k r25 l20 r15 k l15 "
            + "r15 l20 d4", "1", "9,3 d", "9,4 d"},
        {"599", "l10 r10 l10 u5 d5 r20 k l20 u5 d5 r20 l15 k d5 u5 d5 l20 r20 l20 k r20 l20 r15 l15 k u15 l10 r10 l20 r25 "
            + "k l25 r5 u5 d5 r15 l20 k r5 u15 d15 r15 l20 k r20 l20 r25 k l25 r25 l30 k r30 l30 k r30 l30 k r8", "4",
            "2,4 r", "3,4 u"},
        {"600", "l10 r15 l15 r20 k l20 r20 l20 k r15 d5 u5 r5 d5 r15 l20 k r20 l20 r20 k l20 r20 u30 k d20 u20 d20 k u20 "
            + "d30 l15 k u5 l5 r5 d5 r15 u30 k l20 d5 u5 r20 l20 k d5 u5 d5 r5 u5 r15 d30 k l20 u5 l15 u5 l5 u5 l35 k u5 "
            + "l5 u10 r9", "2", "7,1 r", "8,1 d"},
        {"659", "r10 l10 r10 l15 r15 k l15 r15 l15 r15 k l15 d5 l20 r20 k l20 r20 l20 k r15 l15 u15 l15 k r15 l15 r5 l5 "
            + "r15 l15 k r25 d5 r5 l5 u5 l25 k r20 l15 r5 l10 u10 k d10 r20 l20 u10 k d10 r25 l25 k r25 l25 r25 k l25 d15 "
            + "u30 k d20 u20 d30 k u23", "2", "3,7 r", "4,7 u"},
        {"660", "l10 r15 l15 r20 k l20 r20 l20 k r15 d5 u5 r5 d5 r15 l20 k r20 l20 r20 k l20 r20 u30 k d20 u20 d20 k u20 "
            + "d30 l15 k u5 l5 r5 d5 r15 u30 k l20 d5 u5 r20 l20 k d5 u5 d5 r5 u5 r15 d30 k l20 u5 l15 u5 l5 u5 l35 k u5 "
            + "l5 u10 r15 d30 k l15 u5 l4", "1", "8,2 u", "8,1 l"},
    };

    private final Check check = new Check();

    public static void main(String[] args) {
        EdgesOfHuntersTest test = new EdgesOfHuntersTest();
        test.scatterAndChase();
        test.resting();
        test.lastFrameOfRest();
        test.speed();
        test.justOne();
        test.gate();
        test.house();
        test.roundTheSides();
        test.notBack();
        test.drawnOrder();
        test.drawnNumbers();
        test.firstOfSeveral();
        test.nearThePlayer();
        test.aimsOutside();
        test.check.end();
    }

    private void scatterAndChase() {
        for (String[] edge : MODE_EDGES) {
            check.sentence("Promise 6, step 1, MODE time " + edge[0], "Hunters SCATTER while it is below 100, "
                + "from 300 to 379, and from 600 to 659, else they CHASE.");
            MazeBoard board = chooses(edge[1], Integer.parseInt(edge[2]), edge[3], edge[4]);
            check.due("MODE time", board.look(8), Integer.parseInt(edge[0]));
        }
    }

    /** In the frame after these moves a hunter enters a cell and chooses; the stick stays where it is. */
    private MazeBoard chooses(String moves, int hunter, String before, String after) {
        MazeBoard board = Play.started(moves);
        check.due("hunter " + hunter + " before", Play.tell(board, hunter), before);
        board.frames(1);
        check.due("hunter " + hunter, Play.tell(board, hunter), after);
        return board;
    }

    private void resting() {
        check.sentence(STEP_3, "one that is RESTING rests 1 frame less.");
        MazeBoard board = Play.started("n1");
        check.due("hunter 2", Play.tell(board, 2), "6,4 u L39");
        check.due("hunter 3", Play.tell(board, 3), "5,4 u L79");
        check.due("hunter 4", Play.tell(board, 4), "7,4 u L119");
        check.due("hunter 1 does not rest", board.actor(1, 4), 0);
        board = Play.started("n60 k n60 n1");
        for (int actor = 0; actor <= 4; actor++) {
            check.due("RESTING of " + actor + " does not fall below 0", board.actor(actor, 4), 0);
        }
    }

    private void lastFrameOfRest() {
        check.sentence(STEP_3, "(It also chooses when it has rested for the last frame.)");
        String[] moves = {"n39", "n60 k n19", "n60 k n59"};
        String[] before = {"6,4 u L1", "5,4 u L1", "7,4 u L1"};
        String[] after = {"6,4 u L0", "5,4 r L0", "7,4 l L0"};
        for (int i = 0; i < 3; i++) {
            int hunter = 2 + i;
            MazeBoard board = Play.started(moves[i]);
            check.due("hunter " + hunter + " before", Play.tell(board, hunter), before[i]);
            board.frames(1);
            check.due("hunter " + hunter + " has rested", Play.tell(board, hunter), after[i]);
            check.due("it has not moved", board.progress(hunter), 0f);
            board.frames(1);
            check.due("it moves a frame later", board.progress(hunter), 0.19f * (1f + 0.04f * 1));
        }
    }

    private void speed() {
        check.sentence(STEP_3, "0.19 * (1 + 0.04 * LEVEL), with LEVEL at most 5, half of that if it is frightened");
        for (int level = 1; level <= 8; level++) {
            float due = 0.19f * (1f + 0.04f * Math.min(5, level));
            MazeBoard board = Play.started(Ways.toLevel(level) + " l1");
            check.due("progress(1) in level " + level, board.progress(1), due);
            board = Play.started(Ways.toLevel(level) + " l10 d5 l15");
            float sum = board.progress(1) + due / 2f;
            check.due("hunter 1 is frightened in level " + level, board.actor(1, 3), 1);
            board.frames(1);
            check.due("progress(1), frightened in level " + level, board.progress(1), sum >= 1f ? sum - 1f : sum);
        }
    }

    /** Hunter 3's steps add up to just 1. */
    private void justOne() {
        check.sentence(STEP_3, "when it is 1 or more, the hunter enters the next cell of its direction, "
            + "PROGRESS becomes less by 1");
        MazeBoard board = Play.started("r10 d5 k d60 d7 k r15 r60 r10 k u30 r23 k l20 d5 l10 u5 l18");
        float half = 0.19f * (1f + 0.04f * 1) / 2f;
        check.due("what PROGRESS comes to", board.progress(3) + half, 1f);
        check.due("hunter 3 before", Play.tell(board, 3), "4,6 d F");
        board.frames(1);
        check.due("hunter 3", Play.tell(board, 3), "4,7 l F");
        check.due("progress(3)", board.progress(3), 0f);
        board = Play.started("n5");
        check.due("hunter 1, PROGRESS below 1", Play.tell(board, 1), "6,2 l");
        float more = board.progress(1) + 0.19f * (1f + 0.04f * 1);
        board.frames(1);
        check.due("hunter 1, PROGRESS above 1", Play.tell(board, 1), "5,2 u");
        check.due("progress(1)", board.progress(1), more - 1f);
    }

    /** Hunter 3 goes to its corner, to the right; (6, 2) as an aim would draw it to the left. */
    private void gate() {
        check.sentence(STEP_3, "One that is LEAVING and enters (6, 2) is not leaving any more, before it chooses.");
        MazeBoard board = chooses("l10 r20 l20 d5 l1 u39", 3, "6,3 u L0", "6,2 r");
        check.due("LEAVING", board.actor(3, 5), 0);
        check.due("in the door it still leaves", Play.tell(Play.started("n46"), 2), "6,3 u L0");
    }

    /** Hunter 1 is over the door, and the number drawn is that of the way down. */
    private void house() {
        check.sentence(STEP_3, "to a hunter if it is no wall, and no house unless the hunter is LEAVING.");
        MazeBoard board = Play.started("n12 d5 l15");
        check.due("hunter 1 before", Play.tell(board, 1), "7,2 l F");
        board.frames(1);
        check.due("hunter 1 over the door", Play.tell(board, 1), "6,2 l F");
        check.due("hunter 2, leaving, goes through the house", Play.tell(Play.started("n46"), 2), "6,3 u L0");
        board = Play.started("n60 k n26");
        check.due("hunter 3, leaving, goes through the house", Play.tell(board, 3), "6,4 u L0");
    }

    private void roundTheSides() {
        check.sentence(STEP_3, "Left of column 0 is column 12, and the other way round.");
        MazeBoard board = Play.started("l10 r20 l20 r20 k l20 r15");
        check.due("hunter 2 at the left side", Play.tell(board, 2), "0,4 l");
        board.frames(1);
        check.due("hunter 2 beyond it", Play.tell(board, 2), "12,4 l");
        board = Play.started("r5 d5 r20 u25 d25 k u30 l15");
        check.due("hunter 2 at the right side", Play.tell(board, 2), "12,4 r F");
        board.frames(1);
        check.due("hunter 2 beyond it", Play.tell(board, 2), "0,4 r F");
    }

    private void notBack() {
        check.sentence(STEP_3, "but not the opposite of its own unless there is no other one");
        chooses("l5", 1, "6,2 l", "5,2 u");
        chooses("l10 d5 l15 r16", 1, "5,2 u F", "5,1 l F");
    }

    /** Drawn is 3, the way back; 0 is a wall, so 1. */
    private void drawnOrder() {
        check.sentence(STEP_3, "a number is drawn, and the first of the order that begins with that one "
            + "(and goes on from 0 behind 3) is taken");
        chooses("n12 d5 l15 r20 l10", 1, "5,1 l F", "4,1 l F");
    }

    /** Hunter 1 alone is frightened, and chooses eight times. */
    private void drawnNumbers() {
        check.sentence(STEP_3, "to DRAW, g becomes g * 1103515245 + 12345 (wrapping), the number drawn is (g >> 16) & 3.");
        MazeBoard board = Play.started(Play.TO_ENERGIZER + " k");
        long generator = 1;
        int chosen = 0;
        int column = board.actor(1, 0);
        int row = board.actor(1, 1);
        int direction = board.actor(1, 2);
        for (int frame = 31; frame < 115; frame++) {
            board.frames(1);
            int newColumn = board.actor(1, 0);
            int newRow = board.actor(1, 1);
            if (newColumn == column && newRow == row) {
                continue;
            }
            generator = (generator * 1103515245L + 12345L) % (1L << 32);
            int drawn = (int) (generator / 65536 % 4);
            int due = firstOpen(newColumn, newRow, direction, drawn);
            check.due("hunter 1's direction in frame " + frame, board.actor(1, 2), due);
            column = newColumn;
            row = newRow;
            direction = due;
            chosen++;
        }
        check.due("numbers drawn", chosen, 8);
    }

    private static int firstOpen(int column, int row, int came, int drawn) {
        int direction = drawn;
        for (int i = 0; i < 4; i++) {
            char next = Model.PLAN[row + Model.DY[direction]].charAt((column + Model.DX[direction] + 13) % 13);
            if (next != '#' && next != '=' && direction != (came + 2) % 4) {
                return direction;
            }
            direction = direction == 3 ? 0 : direction + 1;
        }
        return -1;
    }

    /** From (11, 4) left and right are as far away from the corner (11, 1), and up is where it came from. */
    private void firstOfSeveral() {
        check.sentence(STEP_3, "else the one whose next cell has the least distance to its AIM, of several the first.");
        chooses("l5 r15 l20 r19 l16", 1, "11,3 d", "11,4 l");
    }

    private void nearThePlayer() {
        check.sentence(STEP_3, "4: the player's cell, but its corner as in SCATTER if its distance to the player is below 9.");
        MazeBoard board = chooses("r10 n1 l20 r20 n1 l20 k d5 r5 l20 u30 k d28", 4, "3,3 d", "3,4 d");
        check.due("the player, in a distance of 8", Play.tell(board, 0), "1,6 d");
        check.holds("MODE time is in CHASE", board.look(8) >= 100 && board.look(8) < 300);
        board = chooses("l10 r20 l20 r20 k l20 r5 d5 l20 u25", 4, "5,2 l", "4,2 u");
        check.due("the player, in a distance of 9", Play.tell(board, 0), "1,2 u");
        check.holds("MODE time is in CHASE", board.look(8) >= 100 && board.look(8) < 300);
    }

    private void aimsOutside() {
        check.sentence(STEP_3, "(Cells that are aimed at need not be in the maze, and nothing goes round its sides there.)");
        MazeBoard board = chooses("l10 u5 l5 u5 l35 k r35 l15", 2, "12,4 l", "11,4 l");
        check.due("the player at the left side", Play.tell(board, 0), "0,4 l");
        board = chooses("r10 l20 u5 l5 u10 d10 k u5 l15 r15 l30 k r11", 2, "8,3 u", "8,2 u");
        check.due("the player at the right side", Play.tell(board, 0), "12,4 r");
        board = chooses("r10 l20 d5 l15 r5 n15 k l20 r16 l24 k u30 d25 u25 k r20 l20 r10 l9", 2, "3,5 u", "3,4 l");
        check.due("the player beside the left side", Play.tell(board, 0), "1,1 l");
        board = chooses("l10 r20 l20 r20 k l20 r15 d5", 2, "12,4 l", "11,4 d");
        check.due("the player near the lower side", Play.tell(board, 0), "7,7 d");
        chooses("l10 r20 l20 r20 k l15 d5 l10", 3, "6,2 r", "7,2 u");
        chooses("l10 r20 l20 r20 k l20 u5 d5", 3, "6,2 r", "7,2 r");
    }
}
