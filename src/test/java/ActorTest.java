/** Promise 8: actor. */
public final class ActorTest {
    public static void main(String[] args) {
        Check check = new Check();
        MazeBoard board = Play.started();
        int[][] placed = {
            {6, 6, 1, 0, 0, 0},
            {6, 2, 1, 0, 0, 0},
            {6, 4, 0, 0, 40, 1},
            {5, 4, 0, 0, 80, 1},
            {7, 4, 0, 0, 120, 1},
        };
        compare(check, board, placed);
        Play.play(board, Play.TO_ENERGIZER + " n30");
        int[][] later = {
            {1, 7, 1, 0, 0, 0},
            {4, 1, 1, 1, 0, 0},
            {5, 2, 1, 0, 0, 0},
            {5, 4, 0, 0, 20, 1},
            {7, 4, 0, 0, 60, 1},
        };
        compare(check, board, later);
        int[] wrong = {-1, 6, 7, Integer.MIN_VALUE, Integer.MAX_VALUE};
        for (int what : wrong) {
            for (int actor = 0; actor <= 4; actor++) {
                check.due("actor(" + actor + ", " + what + ")", board.actor(actor, what), -1);
            }
        }
        int[] nobody = {-1, 5, 6, Integer.MIN_VALUE, Integer.MAX_VALUE};
        for (int actor : nobody) {
            for (int what = -1; what <= 6; what++) {
                check.due("actor(" + actor + ", " + what + ")", board.actor(actor, what), -1);
            }
        }
        check.end();
    }

    private static void compare(Check check, MazeBoard board, int[][] due) {
        for (int actor = 0; actor < due.length; actor++) {
            for (int what = 0; what < due[actor].length; what++) {
                check.due("actor(" + actor + ", " + what + ")", board.actor(actor, what), due[actor][what]);
            }
        }
    }
}
