/** The edges of the picture's tiles and sprites: promise 11, a test for each sentence. */
public final class EdgesOfPictureTest {
    private static final String TILES = "Promise 11, tiles";
    private static final String SPRITES = "Promise 11, sprites";

    private final Check check = new Check();

    public static void main(String[] args) {
        EdgesOfPictureTest test = new EdgesOfPictureTest();
        test.tiles();
        test.blinking();
        test.eaten();
        test.beyondTheSides();
        test.wholePart();
        test.mouth();
        test.hunters();
        test.noGame();
        test.severalAtOnePoint();
        test.check.end();
    }

    private void tiles() {
        check.sentence(TILES, "A wall's points are 1; of a dot the point (1, 1) in its cell is 2; "
            + "of an energizer the points 1 and 2 in both directions are 2");
        MazeBoard board = new MazeBoard();
        check.due("a wall", Play.points(board, 12, 8), "1111/1111/1111/1111");
        check.due("a dot", Play.points(board, 12, 4), "0000/0200/0000/0000");
        check.due("an energizer", Play.points(board, 11, 7), "0000/0220/0220/0000");
        check.sentence(TILES, "house points 9 in the row 0 of its cell; others 0.");
        check.due("the door", Play.points(board, 6, 3), "9999/0000/0000/0000");
        check.due("the house", Play.points(board, 7, 4), "9999/0000/0000/0000");
    }

    private void blinking() {
        check.sentence(TILES, "but only while the frame count & 8 is 0");
        MazeBoard board = new MazeBoard();
        int[] frames = {0, 7, 8, 15, 16, 23, 24, 31, 32};
        for (int i = 0; i < frames.length; i++) {
            if (i > 0) {
                board.frames(frames[i] - frames[i - 1]);
            }
            int due = i / 2 * 2 % 4 == 0 ? 2 : 0;
            check.due("an energizer in frame " + frames[i], board.point(5, 5), due);
            check.due("a dot in frame " + frames[i], board.point(5, 9), 2);
        }
    }

    private void eaten() {
        check.sentence(TILES, "others 0.");
        MazeBoard board = Play.started(Play.TO_ENERGIZER + " r10");
        check.due("the frame count & 8", board.look(11) & 8, 8);
        board.frames(8);
        check.due("a cell without its energizer", Play.points(board, 1, 7), "0000/0000/0000/0000");
        check.due("a cell without its dot", Play.points(board, 2, 7), "0000/0000/0000/0000");
    }

    private void beyondTheSides() {
        check.sentence(SPRITES, "(beyond a side it comes in on the other one)");
        MazeBoard board = Play.started("l10 u5 l5 u5 l19");
        check.due("the player", Play.tell(board, 0), "0,4 l");
        check.due("three beyond the left side", Play.pointsFrom(board, 49, 16), "0330/3333/3333/0330");
        check.due("beside it", board.point(1, 17), 0);
        Play.play(board, "l1 r4");
        check.due("the player", Play.tell(board, 0), "12,4 r");
        check.due("three beyond the right side", Play.pointsFrom(board, 51, 16), "0330/3330/3330/0330");
        board = Play.started("l10 r20 l20 r20 k l20 r15");
        check.due("hunter 2", Play.tell(board, 2), "0,4 l");
        check.due("three beyond the left side", Play.pointsFrom(board, 49, 16), "0550/5555/5555/5555");
        board = Play.started("r5 d5 r20 u25 d25 k u30 l15");
        check.due("hunter 2", Play.tell(board, 2), "12,4 r F");
        check.due("three beyond the right side", Play.pointsFrom(board, 51, 16), "0880/8888/8888/8888");
    }

    /** PROGRESS is 0.21, 0.42, 0.63, 0.84: four times that is just below 1, 2, 3 and 4. */
    private void wholePart() {
        check.sentence(SPRITES, "moved by the whole part of PROGRESS * 4 in its direction");
        MazeBoard board = Play.started();
        int[] left = {24, 24, 23, 22, 21, 20};
        for (int frame = 0; frame < left.length; frame++) {
            if (frame > 0) {
                board.frames(1);
            }
            check.due("the player's right side in frame " + frame, board.point(left[frame] + 3, 25), 3);
            check.due("right of it in frame " + frame, board.point(left[frame] + 4, 26), 0);
            check.due("the player's top in frame " + frame, board.point(left[frame] + 1, 24), 3);
            check.due("its upper left corner in frame " + frame, board.point(left[frame], 24), 0);
        }
    }

    private void mouth() {
        check.sentence(SPRITES, "the two middle points on the side to which it looks, while the frame count & 4 is 0: "
            + "colour 3.");
        String shut = "0330/3333/3333/0330";
        String open = "0330/0333/0333/0330";
        check.due("frame 3", Play.pointsFrom(Play.started("n3"), 22, 24), open);
        check.due("frame 4", Play.pointsFrom(Play.started("n4"), 21, 24), shut);
        check.due("frame 7", Play.pointsFrom(Play.started("l7"), 19, 24), shut);
        check.due("frame 8", Play.pointsFrom(Play.started("l8"), 18, 24), open);
        check.due("right", Play.pointsFrom(Play.started("r1"), 24, 24), "0330/3330/3330/0330");
        check.due("up", Play.points(Play.started("l10 u1"), 4, 6), "0000/3333/3333/0330");
        check.due("down", Play.points(Play.started("l10 d1"), 4, 6), "0330/3333/3333/0000");
    }

    private void hunters() {
        check.sentence(SPRITES, "all points but the upper two corners: colour 3 + its number, 8 if it is frightened.");
        MazeBoard board = Play.started();
        check.due("hunter 1", Play.points(board, 6, 2), "0440/4444/4444/4444");
        check.due("hunter 4", Play.points(board, 7, 4), "9779/7777/7777/7777");
        Play.play(board, "l10 d5 l14");
        check.due("hunter 1 before the energizer", board.point(24, 10), 4);
        board.frames(1);
        check.due("hunter 1, frightened", Play.pointsFrom(board, 23, 8), "0880/8888/8888/8888");
        check.due("hunter 4, leaving", board.point(29, 18), 7);
        Play.play(board, "k n60 n24");
        check.due("FRIGHT", board.look(7), 1);
        check.due("hunter 1 in the last frame of fright", middle(board, 1), 8);
        board.frames(1);
        check.due("hunter 1 after it", middle(board, 1), 4);
    }

    /** A point that belongs to a hunter's sprite wherever it is between two cells. */
    private static int middle(MazeBoard board, int hunter) {
        int moved = (int) (board.progress(hunter) * 4);
        int direction = board.actor(hunter, 2);
        return board.point(4 * board.actor(hunter, 0) + 1 + moved * Model.DX[direction],
            4 * board.actor(hunter, 1) + 2 + moved * Model.DY[direction]);
    }

    private void noGame() {
        check.sentence(SPRITES, "Without a game there are no sprites.");
        MazeBoard board = new MazeBoard();
        check.due("where the player is", Play.points(board, 6, 6), "0000/0200/0000/0000");
        check.due("where hunter 2 is", Play.points(board, 6, 4), "9999/0000/0000/0000");
        board.coin();
        board.start();
        check.due("the player", board.point(26, 25), 3);
        Play.play(board, "n60 k n60 k n32 k n60 k n60 k n32 k n60 k n60 k n31");
        check.due("the player in the last frame but one", board.point(17, 26), 3);
        board.frames(1);
        check.due("no game is on", board.look(0), 0);
        check.due("where the player was", board.point(17, 26), 0);
    }

    private void severalAtOnePoint() {
        check.sentence(SPRITES, "Of several at a point the player counts first, then the hunters by their numbers.");
        MazeBoard board = Play.started(Play.UNTIL_BEFORE_DEATH);
        check.due("hunter 1 over the player", Play.tell(board, 1), "4,5 d");
        check.due("the player counts first", Play.points(board, 4, 6), "4334/3333/3333/0330");
        board = Play.started(Play.TO_ENERGIZER + " n30 k n13");
        check.due("hunters 1 and 2", Play.tell(board, 1) + "; " + Play.tell(board, 2), "3,1 l F; 3,1 l");
        check.due("hunter 1 counts first", Play.pointsFrom(board, 10, 4), "0880/8888/8888/8888");
    }
}
