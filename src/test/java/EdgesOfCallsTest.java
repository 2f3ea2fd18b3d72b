/** The edges of the calls' arguments, and of coins, game and stick: promises 1 to 13, a test for each sentence. */
public final class EdgesOfCallsTest {
    private static final int LEAST = Integer.MIN_VALUE;
    private static final int MOST = Integer.MAX_VALUE;

    private final Check check = new Check();

    public static void main(String[] args) {
        EdgesOfCallsTest test = new EdgesOfCallsTest();
        test.newObject();
        test.fullOfCoins();
        test.startRefused();
        test.startAfterGame();
        test.stickRange();
        test.kick();
        test.framesRange();
        test.lookRange();
        test.actorRange();
        test.progressRange();
        test.cellRange();
        test.pointRange();
        test.volumeRange();
        test.silence();
        test.refusedChangesNothing();
        test.refusedChangesNothingLater();
        test.check.end();
    }

    private void newObject() {
        check.sentence("Promise 1", "No game, no coins; score, LIVES, LEVEL and all other numbers 0, but the generator 1; "
            + "all dots are there, the actors are placed, all voices are silent; the stick points nowhere.");
        MazeBoard board = new MazeBoard();
        for (int what = 0; what <= 11; what++) {
            check.due("look(" + what + ")", board.look(what), what == 6 ? 54 : 0);
        }
        check.due("the actors", Play.tellAll(board), Play.PLACED);
        check.due("start()", board.start(), false);
        check.due("sound()", board.sound(), 0f);
        board.frames(60);
        check.due("sound() 60 frames later", board.sound(), 0f);
        board.coin();
        board.start();
        board.frames(5);
        check.due("the player", Play.tell(board, 0), "5,6 l");
        check.holds("no stick stops it", board.progress(0) > 0f);
    }

    private void fullOfCoins() {
        check.sentence("Promise 2", "A coin: true; false (refused) if nine are there.");
        MazeBoard board = withCoins(8);
        check.due("the ninth coin()", board.coin(), true);
        check.due("coins", board.look(5), 9);
        check.due("the tenth coin()", board.coin(), false);
        check.due("coins", board.look(5), 9);
        board.start();
        check.due("coins after start()", board.look(5), 8);
        check.due("coin() in the free place", board.coin(), true);
        check.due("coin() when nine are there again", board.coin(), false);
        check.due("coins", board.look(5), 9);
    }

    private void startRefused() {
        check.sentence("Promise 3", "false (refused) if there is no coin, or a game is on.");
        MazeBoard board = new MazeBoard();
        check.due("start() without a coin", board.start(), false);
        check.due("look(0)", board.look(0), 0);
        check.due("coins", board.look(5), 0);
        board = withCoins(2);
        check.due("start() with two coins", board.start(), true);
        check.due("coins", board.look(5), 1);
        board.frames(5);
        check.due("start() in a game", board.start(), false);
        check.due("coins, none taken", board.look(5), 1);
        check.due("the game goes on", board.look(1), 10);
        board = withCoins(1);
        check.due("start() with the last coin", board.start(), true);
        check.due("coins", board.look(5), 0);
    }

    private void startAfterGame() {
        check.sentence("Promise 3", "LEVEL 1, 3 LIVES, score and CHAIN 0, dots and actors placed, the generator 1: true");
        MazeBoard board = Play.started("r60 k d5 r51");
        check.due("CHAIN", board.look(9), 1);
        check.due("start() in the game", board.start(), false);
        Play.untilOver(board);
        check.due("LIVES of the game that is over", board.look(3), 0);
        check.due("CHAIN of the game that is over", board.look(9), 1);
        check.due("start() without a coin", board.start(), false);
        board.coin();
        check.due("start()", board.start(), true);
        int[] due = {1, 0, board.look(2), 3, 1, 0, 54, 0, 0, 0};
        for (int what = 0; what < due.length; what++) {
            check.due("look(" + what + ")", board.look(what), due[what]);
        }
        check.due("the actors", Play.tellAll(board), Play.PLACED);
        Play.play(board, Play.TO_ENERGIZER + " k n60");
        MazeBoard first = Play.started(Play.TO_ENERGIZER + " k n60");
        check.due("what is drawn", Play.tellAll(board), Play.tellAll(first));
    }

    private void stickRange() {
        check.sentence("Promise 4", "The stick points to a direction 0 .. 3, or nowhere (-1): true; "
            + "false (refused) for another number.");
        MazeBoard board = Play.started();
        for (int direction = -1; direction <= 3; direction++) {
            check.due("stick(" + direction + ")", board.stick(direction), true);
        }
        for (int direction : new int[] {-2, 4, 5, LEAST, MOST}) {
            check.due("stick(" + direction + ")", board.stick(direction), false);
        }
        board.frames(1);
        check.due("the player, after stick(3) and refused ones", Play.tell(board, 0), "6,6 r");
        board.stick(1);
        board.stick(-1);
        board.frames(4);
        check.due("the player, after stick(-1)", Play.tell(board, 0), "7,6 r");
        check.holds("no stick stops it", board.progress(0) > 0f);
        check.due("stick(0) without a game", new MazeBoard().stick(0), true);
        check.due("stick(4) without a game", new MazeBoard().stick(4), false);
    }

    private void kick() {
        check.sentence("Promise 5", "The watchdog becomes 0.");
        MazeBoard board = new MazeBoard();
        board.kick();
        check.due("the watchdog of a new object", board.look(10), 0);
        board.coin();
        board.frames(60);
        board.frames(59);
        check.due("the watchdog", board.look(10), 119);
        board.kick();
        check.due("the watchdog, kicked", board.look(10), 0);
        board.frames(1);
        check.due("the watchdog a frame later", board.look(10), 1);
        check.due("coins, which a reset would take", board.look(5), 1);
        check.due("the frames", board.look(11), 120);
    }

    private void framesRange() {
        check.sentence("Promise 6", "Lets n frames pass; how many; -1 (refused) if n is not 1 .. 60.");
        MazeBoard board = Play.started();
        check.due("frames(1)", board.frames(1), 1);
        check.due("the frames", board.look(11), 1);
        check.due("frames(60)", board.frames(60), 60);
        check.due("the frames", board.look(11), 61);
        String before = Play.everything(board);
        for (int n : new int[] {0, -1, 61, LEAST, MOST}) {
            check.due("frames(" + n + ")", board.frames(n), -1);
            check.due("all, after frames(" + n + ")", Play.everything(board), before);
        }
    }

    private void lookRange() {
        check.sentence("Promise 7", "of the latest game what is of a game; -1 for another what.");
        MazeBoard board = Play.started(Play.TO_ENERGIZER + " n30");
        Play.untilOver(board);
        check.due("look(0)", board.look(0), 0);
        check.due("the score of the latest game", board.look(1), board.look(2));
        check.holds("it had points", board.look(1) >= 100);
        check.due("LIVES of the latest game", board.look(3), 0);
        check.due("LEVEL of the latest game", board.look(4), 1);
        check.holds("dots left of the latest game", board.look(6) <= 48);
        check.holds("MODE time of the latest game", board.look(8) > 0);
        for (int what : new int[] {-1, 12, 13, LEAST, MOST}) {
            check.due("look(" + what + ")", board.look(what), -1);
        }
    }

    private void actorRange() {
        check.sentence("Promise 8", "-1 if there is no such actor or what.");
        MazeBoard board = Play.started();
        check.due("actor(0, 0)", board.actor(0, 0), 6);
        check.due("actor(4, 5)", board.actor(4, 5), 1);
        for (int actor : new int[] {-1, 5, LEAST, MOST}) {
            check.due("actor(" + actor + ", 0)", board.actor(actor, 0), -1);
            check.due("actor(" + actor + ", 5)", board.actor(actor, 5), -1);
            check.due("actor(" + actor + ", 6)", board.actor(actor, 6), -1);
        }
        for (int what : new int[] {-1, 6, LEAST, MOST}) {
            check.due("actor(0, " + what + ")", board.actor(0, what), -1);
            check.due("actor(4, " + what + ")", board.actor(4, what), -1);
        }
    }

    private void progressRange() {
        check.sentence("Promise 9", "PROGRESS of an actor; 0 if there is none such.");
        MazeBoard board = Play.started("n60 k n60 k n1");
        check.holds("progress(1) is above 0", board.progress(1) > 0f);
        check.holds("progress(4) is above 0", board.progress(4) > 0f);
        for (int actor : new int[] {-1, 5, LEAST, MOST}) {
            check.due("progress(" + actor + ")", board.progress(actor), 0f);
        }
    }

    private void cellRange() {
        check.sentence("Promise 10", "-1 if there is no such cell.");
        MazeBoard board = new MazeBoard();
        int[][] inside = {{0, 0, 1}, {12, 0, 1}, {0, 8, 1}, {12, 8, 1}, {0, 4, 2}, {12, 4, 2}};
        for (int[] c : inside) {
            check.due("cell(" + c[0] + ", " + c[1] + ")", board.cell(c[0], c[1]), c[2]);
        }
        int[][] outside = {{-1, 4}, {13, 4}, {6, -1}, {6, 9}, {-1, -1}, {13, 9}, {-1, 1}, {13, 0}, {117, 0},
            {LEAST, 4}, {MOST, 4}, {6, LEAST}, {6, MOST}};
        for (int[] c : outside) {
            check.due("cell(" + c[0] + ", " + c[1] + ")", board.cell(c[0], c[1]), -1);
        }
    }

    private void pointRange() {
        check.sentence("Promise 11", "The colour of a point; -1 if there is none.");
        MazeBoard board = Play.started();
        int[][] inside = {{0, 0, 1}, {51, 0, 1}, {0, 35, 1}, {51, 35, 1}, {0, 16, 0}, {51, 16, 0}, {1, 17, 2}, {49, 17, 2}};
        for (int[] p : inside) {
            check.due("point(" + p[0] + ", " + p[1] + ")", board.point(p[0], p[1]), p[2]);
        }
        int[][] outside = {{-1, 17}, {52, 17}, {20, -1}, {20, 36}, {-1, -1}, {52, 36}, {-1, 1}, {52, 0},
            {LEAST, 17}, {MOST, 17}, {20, LEAST}, {20, MOST}};
        for (int[] p : outside) {
            check.due("point(" + p[0] + ", " + p[1] + ")", board.point(p[0], p[1]), -1);
        }
    }

    private void volumeRange() {
        check.sentence("Promise 12", "The volume of a voice 0 .. 2; 0 if there is none such.");
        MazeBoard board = Play.started(Play.TO_ENERGIZER);
        check.holds("volume(0) is above 0", board.volume(0) > 0f);
        check.due("volume(2)", board.volume(2), 1.5f);
        for (int voice : new int[] {-1, 3, LEAST, MOST}) {
            check.due("volume(" + voice + ")", board.volume(voice), 0f);
        }
    }

    private void silence() {
        check.sentence("Promise 13", "for voice 0, 1, 2 in this order, from 0 on, plus "
            + "((ACCUMULATOR >> 8 & 15) - 7.5) * VOLUME.");
        MazeBoard board = new MazeBoard();
        check.due("sound() of silent voices", board.sound(), 0f);
        board.coin();
        board.start();
        check.due("sound() before the first frame", board.sound(), 0f);
        board.frames(1);
        check.due("sound() of the ACCUMULATOR 0", board.sound(), (0 - 7.5f) * 0.5f);
        // 13 * 300 = 3900 is 15 * 256 and more, 14 * 300 = 4200 is 16 * 256 and more
        board = Play.started();
        new Ear().humFrom(1, 300).dotsIn(5, 10).listen(check, board, 20);
    }

    private void refusedChangesNothing() {
        check.sentence("Promises 2 to 6", "A call that is refused changes nothing.");
        MazeBoard board = withCoins(9);
        String before = Play.everything(board);
        check.due("coin() with nine", board.coin(), false);
        check.due("all, after coin()", Play.everything(board), before);
        board = Play.started("n60 n59");
        board.coin();
        before = Play.everything(board);
        check.due("the watchdog", board.look(10), 119);
        check.due("start() in a game", board.start(), false);
        check.due("all, after start()", Play.everything(board), before);
        check.due("frames(0)", board.frames(0), -1);
        check.due("frames(61)", board.frames(61), -1);
        check.due("all, after frames()", Play.everything(board), before);
        check.due("stick(4)", board.stick(4), false);
        check.due("stick(-2)", board.stick(-2), false);
        check.due("all, after stick()", Play.everything(board), before);
    }

    /** Two boards get the same moves, one of them many a call more that must change nothing. */
    private void refusedChangesNothingLater() {
        check.sentence("Promises 2 to 13", "A call that is refused changes nothing.");
        MazeBoard board = withCoins(9);
        MazeBoard other = withCoins(9);
        board.coin();
        board.start();
        other.start();
        for (String move : new String[] {"l10", "d5", "l15", "n30", "k", "n60"}) {
            callInVain(board);
            Play.play(board, move);
            Play.play(other, move);
            check.due("all, after " + move, Play.everything(board), Play.everything(other));
        }
        for (int column = 0; column < 13; column++) {
            check.due("cell(" + column + ", 7)", board.cell(column, 7), other.cell(column, 7));
        }
    }

    private static void callInVain(MazeBoard board) {
        board.start();
        board.stick(4);
        board.stick(-2);
        board.frames(0);
        board.frames(61);
        board.look(12);
        board.actor(5, 0);
        board.actor(0, 6);
        board.progress(5);
        board.cell(13, 9);
        board.point(52, 36);
        board.volume(3);
        board.sound();
    }

    private static MazeBoard withCoins(int coins) {
        MazeBoard board = new MazeBoard();
        for (int i = 0; i < coins; i++) {
            board.coin();
        }
        return board;
    }
}
