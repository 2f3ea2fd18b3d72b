/** Promise 11: point. */
public final class PointTest {
    private static final String DOT = "0000/0200/0000/0000";

    public static void main(String[] args) {
        Check check = new Check();
        tiles(check);
        outside(check);
        player(check);
        hunters(check);
        roundTheSide(check);
        order(check);
        check.end();
    }

    private static void tiles(Check check) {
        MazeBoard board = new MazeBoard();
        check.due("a wall", Play.points(board, 0, 0), "1111/1111/1111/1111");
        check.due("a dot", Play.points(board, 1, 2), DOT);
        check.due("an energizer", Play.points(board, 1, 1), "0000/0220/0220/0000");
        check.due("the house", Play.points(board, 6, 4), "9999/0000/0000/0000");
        check.due("no sprite without a game", Play.points(board, 6, 6), DOT);
        for (int frame = 1; frame <= 32; frame++) {
            board.frames(1);
            check.due("an energizer in frame " + frame, board.point(5, 5), frame / 8 % 2 == 0 ? 2 : 0);
            check.due("a dot in frame " + frame, board.point(5, 9), 2);
        }
        board = Play.started(Play.TO_ENERGIZER + " r10");
        check.due("nothing", Play.points(board, 2, 7), "0000/0000/0000/0000");
    }

    private static void outside(Check check) {
        MazeBoard board = new MazeBoard();
        check.due("point(51, 35)", board.point(51, 35), 1);
        int[][] places = {{-1, 0}, {52, 0}, {0, -1}, {0, 36}, {-1, 18}, {52, 18}, {52, 36},
            {Integer.MIN_VALUE, 0}, {Integer.MAX_VALUE, 0}, {0, Integer.MIN_VALUE}, {0, Integer.MAX_VALUE}};
        for (int[] place : places) {
            check.due("point(" + place[0] + ", " + place[1] + ")", board.point(place[0], place[1]), -1);
        }
    }

    /** The mouth is open in the frames 0 to 3, 8 to 11 and so on. */
    private static void player(Check check) {
        MazeBoard board = Play.started();
        check.due("frame 0, left", Play.points(board, 6, 6), "0330/0333/0333/0330");
        board.frames(1);
        check.due("frame 1, not yet moved", Play.points(board, 6, 6), "0330/0333/0333/0330");
        board.frames(1);
        check.due("frame 2, one to the left", Play.pointsFrom(board, 23, 24), "0330/0333/0333/0330");
        board.frames(2);
        check.due("frame 4, three to the left", Play.pointsFrom(board, 21, 24), "0330/3333/3333/0330");
        check.due("what is behind it", Play.points(board, 6, 6), "0000/3200/3000/0000");

        board = Play.started("r3");
        check.due("frame 3, two to the right, a dot in its mouth", Play.pointsFrom(board, 26, 24), "0330/3332/3330/0330");
        board = Play.started("l10 d1");
        check.due("frame 11, down", Play.points(board, 4, 6), "0330/3333/3333/0000");
        board = Play.started("l10 u1");
        check.due("frame 11, up", Play.points(board, 4, 6), "0000/3333/3333/0330");
        board = Play.started("l10 u3");
        check.due("frame 13, two up", Play.pointsFrom(board, 16, 22), "0330/3333/3333/0330");
        board = Play.started("l10 d4");
        check.due("frame 14, three down", Play.pointsFrom(board, 16, 27), "0330/3333/3333/0330");
    }

    private static void hunters(Check check) {
        MazeBoard board = Play.started();
        check.due("hunter 1", Play.points(board, 6, 2), "0440/4444/4444/4444");
        check.due("hunter 2", Play.points(board, 6, 4), "9559/5555/5555/5555");
        check.due("hunter 3", Play.points(board, 5, 4), "9669/6666/6666/6666");
        check.due("hunter 4", Play.points(board, 7, 4), "9779/7777/7777/7777");
        Play.play(board, Play.TO_ENERGIZER);
        check.due("hunter 1, frightened, one to the left", Play.pointsFrom(board, 23, 8), "0880/8888/8888/8888");
        check.due("hunter 2 is not frightened", Play.points(board, 6, 4), "9559/5555/5555/5555");
        board = Play.started(Play.UNTIL_BEFORE_DEATH + " k n60 k n60 k n32 k n60 k n60 k n33");
        check.due("the game is over", board.look(0), 0);
        check.due("no sprite after a game", board.point(17, 26), 0);
    }

    private static void roundTheSide(Check check) {
        MazeBoard board = Play.started("l10 u5 l5 u5 l18");
        check.due("frame 43, two over the left side", Play.pointsFrom(board, 50, 16), "0330/0333/0333/0330");
        check.due("point(51, 17)", board.point(51, 17), 3);
        check.due("point(0, 17)", board.point(0, 17), 3);
        check.due("point(2, 17)", board.point(2, 17), 0);
        Play.play(board, "l2 r3");
        check.due("frame 48, two over the right side", Play.pointsFrom(board, 50, 16), "0330/3330/3330/0330");
    }

    private static void order(Check check) {
        MazeBoard board = Play.started(Play.TO_ENERGIZER + " n30 k n13");
        check.due("hunters 1 and 2 are in one cell", Play.tell(board, 1) + "; " + Play.tell(board, 2), "3,1 l F; 3,1 l");
        check.due("hunter 1 counts first", Play.pointsFrom(board, 10, 4), "0880/8888/8888/8888");
        board = Play.started(Play.UNTIL_BEFORE_DEATH);
        check.due("hunter 1 comes from above", Play.tell(board, 1), "4,5 d");
        check.due("the player counts before it", Play.points(board, 4, 6), "4334/3333/3333/0330");
    }
}
