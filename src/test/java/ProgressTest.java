/** Promise 9: progress. */
public final class ProgressTest {
    public static void main(String[] args) {
        Check check = new Check();
        MazeBoard board = Play.started();
        float player = 0.2f * (1f + 0.05f * 1);
        float hunter = 0.19f * (1f + 0.04f * 1);
        float due = 0f;
        float dueOfHunter = 0f;
        for (int i = 0; i < 4; i++) {
            board.frames(1);
            due = due + player;
            dueOfHunter = dueOfHunter + hunter;
            check.due("progress(0)", board.progress(0), due);
            check.due("progress(1)", board.progress(1), dueOfHunter);
            check.due("progress(2)", board.progress(2), 0f);
        }
        board.frames(2);
        check.due("progress(1) in the next cell", board.progress(1), dueOfHunter + hunter + hunter - 1f);
        int[] nobody = {-1, 5, 6, Integer.MIN_VALUE, Integer.MAX_VALUE};
        for (int actor : nobody) {
            check.due("progress(" + actor + ")", board.progress(actor), 0f);
        }
        check.end();
    }
}
