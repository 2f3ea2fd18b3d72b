/** The edges of a frame's step 6: promises 12 and 13, a test for each sentence. */
public final class EdgesOfSoundTest {
    private static final String SOUND = "Promise 13, step 6";
    private static final String VOLUME = "Promise 12, step 6";

    private final Check check = new Check();

    public static void main(String[] args) {
        EdgesOfSoundTest test = new EdgesOfSoundTest();
        test.wrappingAccumulator();
        test.noGame();
        test.dots();
        test.gameOver();
        test.endOfFright();
        test.chaseAndFright();
        test.chaseInLevel2();
        test.hunterAndDeath();
        test.check.end();
    }

    /** Voice 0 comes to 32768 in frame 42 and to 65536 in frame 78. */
    private void wrappingAccumulator() {
        check.sentence(SOUND, "each voice's ACCUMULATOR (a short, that wraps) grows by its PITCH");
        Ear ear = new Ear().humFrom(1, 300).dotsIn(5, 10);
        MazeBoard board = Play.started();
        ear.listen(check, board, 60);
        board.kick();
        ear.listen(check, board, 30);
    }

    /** When the game is over voice 1 keeps its pitch, but fades. */
    private void noGame() {
        check.sentence(SOUND, "In any frame, game or not: 6. SOUND");
        MazeBoard board = new MazeBoard();
        new Ear().listen(check, board, 5);
        board.coin();
        board.start();
        Ear ear = new Ear().humFrom(6, 300).dotsIn(10, 15).humFrom(105, 310).deathsIn(157);
        Play.play(board, "n60 k n60 k n31");
        ear.humFrom(157, 300).humFrom(157 + 100, 310).deathsIn(157 + 152);
        ear.humFrom(157 + 152, 300).humFrom(157 + 152 + 100, 310).deathsIn(157 + 304).humFrom(157 + 304, 0);
        ear.listen(check, board, 1);
        Play.play(board, "k n60 k n60 k n32 k n60 k n60 k n31");
        check.due("a game is on", board.look(0), 1);
        ear.listen(check, board, 1);
        check.due("no game is on", board.look(0), 0);
        ear.listen(check, board, 40);
    }

    private void dots() {
        check.sentence(VOLUME, "then voice 0 has the volume 1 and the pitch 900 if a dot was eaten in this frame");
        MazeBoard board = Play.started("l4");
        check.due("volume(0) before", board.volume(0), 0f);
        board.frames(1);
        check.due("volume(0) with a dot", board.volume(0), 1f);
        board.frames(1);
        check.due("volume(0) a frame later", board.volume(0), 0.9f);
        board = Play.started("l10 d5 l14");
        float volume = board.volume(0);
        board.frames(1);
        check.due("volume(0) with an energizer", board.volume(0), volume * 0.9f);
        volume = board.volume(0);
        Play.play(board, "r5");
        for (int i = 0; i < 5; i++) {
            volume = volume * 0.9f;
        }
        check.due("volume(0) in an empty cell", board.volume(0), volume);
    }

    private void gameOver() {
        check.sentence(VOLUME, "voice 1 has, if a game is on, the volume 0.5");
        MazeBoard board = new MazeBoard();
        board.frames(1);
        check.due("volume(1) without a game", board.volume(1), 0f);
        board.coin();
        board.start();
        check.due("volume(1) before a frame", board.volume(1), 0f);
        board.frames(1);
        check.due("volume(1) in a game", board.volume(1), 0.5f);
        Play.play(board, "k n60 k n60 k n31");
        check.due("volume(1) with a death", board.volume(1), 0.5f);
        check.due("volume(2) with a death", board.volume(2), 1.5f);
        Play.play(board, "k n60 k n60 k n32 k n60 k n60 k n31");
        check.due("volume(1) in the last frame but one", board.volume(1), 0.5f);
        board.frames(1);
        check.due("no game is on", board.look(0), 0);
        check.due("volume(1) in the last frame", board.volume(1), 0.5f * 0.9f);
        check.due("volume(2) in the last frame", board.volume(2), 1.5f);
    }

    /** The energizer is eaten in frame 30, FRIGHT is 1 in frame 114 and 0 in frame 115. */
    private void endOfFright() {
        check.sentence(SOUND, "the pitch 300, or 600 while FRIGHT is above 0");
        Ear ear = new Ear().dotsIn(5, 10, 15, 20, 25).prizesIn(30).humFrom(1, 300).humFrom(30, 600).humFrom(115, 300);
        MazeBoard board = Play.started("l10 d5 l13");
        ear.listen(check, board, 4);
        board.kick();
        board.frames(60);
        Play.play(board, "n20");
        check.due("FRIGHT", board.look(7), 3);
        ear.listen(check, board, 30);
        check.due("FRIGHT", board.look(7), 0);
    }

    private void chaseAndFright() {
        check.sentence(SOUND, "and, if in CHASE and not that, 300 + 10 * LEVEL");
        Ear ear = new Ear().dotsIn(5, 10, 105, 110, 115).prizesIn(120);
        ear.humFrom(1, 300).humFrom(100, 310).humFrom(120, 600);
        MazeBoard board = Play.started("n60 k n37");
        ear.listen(check, board, 3);
        check.due("MODE time", board.look(8), 100);
        Play.play(board, "d5 l14");
        ear.listen(check, board, 1);
        check.due("FRIGHT", board.look(7), 85);
        check.due("MODE time", board.look(8), 120);
        ear.listen(check, board, 40);
    }

    /** 32 frames of the pitch 320 are 40 steps of the sound, those of 300 and 310 are fewer. */
    private void chaseInLevel2() {
        check.sentence(SOUND, "if in CHASE and not that, 300 + 10 * LEVEL");
        MazeBoard board = Play.started(Ways.toLevel(2) + " k n60 k n40");
        check.due("LEVEL", board.look(4), 2);
        check.due("MODE time", board.look(8), 100);
        int steps = 0;
        int before = heightOfVoice1(board);
        for (int i = 0; i < 32; i++) {
            board.frames(1);
            int after = heightOfVoice1(board);
            steps += Math.floorMod(after - before, 16);
            before = after;
        }
        check.due("steps of voice 1", steps, 40);
    }

    /** The other voices have faded: they do not matter beside steps of 0.5. */
    private static int heightOfVoice1(MazeBoard board) {
        return Math.round(board.sound() / 0.5f + 7.5f);
    }

    /** In frame 100 the player eats hunter 1 and is caught by hunter 3. */
    private void hunterAndDeath() {
        check.sentence(SOUND, "voice 2 has the volume 1.5 and the pitch 1500 if an energizer or a hunter was eaten, "
            + "and, after that, the volume 1.5 and the pitch 100 if the player died.");
        Ear ear = new Ear().dotsIn(5, 10, 15, 20, 25, 35, 40, 45, 50, 55, 65, 70, 75, 80, 85, 90, 100);
        ear.prizesIn(30, 60, 87, 100).deathsIn(100).humFrom(1, 300).humFrom(30, 600).humFrom(100, 300);
        MazeBoard board = Play.started("r10 d5 r15 u30 k l20 d5 r1");
        ear.listen(check, board, 3);
        Play.play(board, "r1 l9");
        check.due("CHAIN", board.look(9), 1);
        check.due("LIVES", board.look(3), 3);
        ear.listen(check, board, 1);
        check.due("CHAIN", board.look(9), 2);
        check.due("LIVES", board.look(3), 2);
        check.due("volume(2)", board.volume(2), 1.5f);
        ear.listen(check, board, 4);
    }
}
