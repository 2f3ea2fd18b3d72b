/** Promise 6: frames, with steps 1 to 5 of a frame. */
public final class FramesTest {
    public static void main(String[] args) {
        Check check = new Check();
        answers(check);
        frightAndMode(check);
        playerMoves(check);
        playerGoesRound(check);
        dotsAndEnergizers(check);
        turningAbout(check);
        turningAboutInCell(check);
        huntersLeave(check);
        huntersScatter(check);
        huntersChase(check);
        death(check);
        chainAndExtraLife(check);
        extraLifeAtTheEdge(check);
        extraLifeInEachGame(check);
        nextLevel(check);
        deathWithLastDot(check);
        check.end();
    }

    private static void answers(Check check) {
        MazeBoard board = Play.started("l3");
        String before = Play.everything(board);
        int[] wrong = {0, -1, 61, 62, 1000, Integer.MIN_VALUE, Integer.MAX_VALUE};
        for (int n : wrong) {
            check.due("frames(" + n + ")", board.frames(n), -1);
            check.due("all, after frames(" + n + ")", Play.everything(board), before);
        }
        check.due("frames(1)", board.frames(1), 1);
        check.due("look(11)", board.look(11), 4);
        check.due("frames(60)", board.frames(60), 60);
        check.due("look(11)", board.look(11), 64);
        onceOrOneByOne(check);
    }

    private static void onceOrOneByOne(Check check) {
        MazeBoard board = Play.started("l60");
        MazeBoard other = Play.started();
        other.stick(1);
        for (int i = 0; i < 60; i++) {
            other.frames(1);
        }
        check.due("sixty frames at once", Play.everything(board), Play.everything(other));
    }

    private static void frightAndMode(Check check) {
        MazeBoard board = Play.started("l10 d5 l14");
        check.due("FRIGHT before", board.look(7), 0);
        check.due("MODE time before", board.look(8), 29);
        board.frames(1);
        check.due("FRIGHT when eaten", board.look(7), 85);
        check.due("MODE time when eaten", board.look(8), 30);
        board.frames(60);
        check.due("FRIGHT later", board.look(7), 25);
        board.frames(24);
        check.due("FRIGHT at its end", board.look(7), 1);
        check.due("MODE time stands", board.look(8), 30);
        check.due("hunter 1 is frightened", board.actor(1, 3), 1);
        board.frames(1);
        check.due("FRIGHT is over", board.look(7), 0);
        check.due("MODE time still stands", board.look(8), 30);
        check.due("nobody is frightened", board.actor(1, 3), 0);
        board.frames(1);
        check.due("MODE time goes on", board.look(8), 31);
    }

    private static void playerMoves(Check check) {
        float speed = 0.2f * (1f + 0.05f * 1);
        MazeBoard board = Play.started("n4");
        float progress = speed + speed + speed + speed;
        check.due("progress(0) after four frames", board.progress(0), progress);
        check.due("the player after four frames", Play.tell(board, 0), "6,6 l");
        board.frames(1);
        progress = progress + speed - 1f;
        check.due("progress(0) after five frames", board.progress(0), progress);
        check.due("the player after five frames", Play.tell(board, 0), "5,6 l");
        board.frames(4);
        check.due("progress(0) after nine frames", board.progress(0), progress + speed + speed + speed + speed);
        board.frames(1);
        check.due("the player at a wall", Play.tell(board, 0), "4,6 l");
        check.due("progress(0) at a wall", board.progress(0), 0f);
        board.frames(5);
        check.due("the player stays at a wall", Play.tell(board, 0), "4,6 l");
        check.due("progress(0) still at a wall", board.progress(0), 0f);

        board = Play.started("l5");
        check.due("progress(0) where the stick points on", board.progress(0), 0f);
        board = Play.started("r5");
        check.due("the player goes right", Play.tell(board, 0), "7,6 r");
    }

    /** Left of (0, 4) is (12, 4), and the other way round. */
    private static void playerGoesRound(Check check) {
        MazeBoard board = Play.started("l10 u5 l5 u5 l15");
        check.due("the player at the side", Play.tell(board, 0), "0,4 l");
        Play.play(board, "l5");
        check.due("the player round the side", Play.tell(board, 0), "12,4 l");
        check.due("cell(12, 4)", board.cell(12, 4), 0);
        check.due("score", board.look(1), 90);
        Play.play(board, "r5");
        check.due("and back", Play.tell(board, 0), "0,4 r");
    }

    private static void dotsAndEnergizers(Check check) {
        MazeBoard board = Play.started("l4");
        check.due("score before a dot", board.look(1), 0);
        board.frames(1);
        check.due("score after a dot", board.look(1), 10);
        check.due("dots left", board.look(6), 53);
        check.due("cell(5, 6)", board.cell(5, 6), 0);
        check.due("the first cell's dot is not eaten", board.cell(6, 6), 2);
        Play.play(board, "r5");
        check.due("it is when it is entered", board.look(1), 20);
        Play.play(board, "l5");
        check.due("an empty cell gives nothing", board.look(1), 20);
        check.due("dots left", board.look(6), 52);

        board = Play.started(Play.TO_ENERGIZER);
        check.due("score after an energizer", board.look(1), 100);
        check.due("left after an energizer", board.look(6), 48);
        check.due("cell(1, 7)", board.cell(1, 7), 0);
        check.due("the best", board.look(2), 100);
    }

    private static void turningAbout(Check check) {
        float speed = 0.19f * (1f + 0.04f * 1);
        MazeBoard board = Play.started("l10 d5 l14");
        check.due("hunter 1 before", Play.tell(board, 1), "5,2 r");
        float progress = board.progress(1);
        board.frames(1);
        check.due("hunter 1 is in the next cell, and about", Play.tell(board, 1), "6,2 l F");
        check.due("its progress, and half a frame's", board.progress(1), 1f - progress + speed / 2f);
        check.due("those that leave are not frightened",
            Play.tell(board, 2) + "; " + Play.tell(board, 3) + "; " + Play.tell(board, 4),
            "6,4 u L10; 5,4 u L50; 7,4 u L90");
        progress = board.progress(1);
        board.frames(1);
        check.due("half the speed", board.progress(1), progress + speed / 2f);
        // g: 1, then 1103527590, drawn 2 (a wall below (5, 2)), 3 goes back, so 0
        board.frames(6);
        check.due("hunter 1 chooses by the number drawn", Play.tell(board, 1), "5,2 u F");
    }

    /** PROGRESS is 0 for hunters too, where their steps add up to just 1. */
    private static void turningAboutInCell(Check check) {
        float half = 0.19f * (1f + 0.04f * 1) / 2f;
        MazeBoard board = Play.started(Ways.BEFORE_TURN);
        check.due("hunter 3 before", Play.tell(board, 3), "4,7 l F");
        check.due("its progress", board.progress(3), 0f);
        board.frames(1);
        check.due("FRIGHT", board.look(7), 85);
        check.due("hunter 3 turns about in its cell", Play.tell(board, 3), "4,7 r F");
        check.due("its progress then", board.progress(3), half);

        board = Play.started(Ways.BEFORE_NO_TURN);
        check.due("hunter 3 before", Play.tell(board, 3), "11,7 l");
        check.due("its progress", board.progress(3), 0f);
        board.frames(1);
        check.due("FRIGHT", board.look(7), 85);
        check.due("hunter 3 has a wall behind it", Play.tell(board, 3), "11,7 l F");
        check.due("its progress then", board.progress(3), half);
    }

    private static void huntersLeave(Check check) {
        MazeBoard board = Play.started("l39");
        check.due("hunter 2 rests", Play.tell(board, 2), "6,4 u L1");
        board.frames(1);
        check.due("hunter 2 has rested", Play.tell(board, 2), "6,4 u L0");
        check.due("progress(2)", board.progress(2), 0f);
        board.frames(1);
        check.due("progress(2) a frame later", board.progress(2), 0.19f * (1f + 0.04f * 1));
        board.frames(9);
        check.due("hunter 2 in the door", Play.tell(board, 2), "6,3 u L0");
        board.frames(1);
        check.due("hunter 2 is outside", Play.tell(board, 2), "6,2 l");
        board.frames(29);
        check.due("hunter 3 has rested and chooses", Play.tell(board, 3), "5,4 r L0");
        board.kick();
        board.frames(6);
        check.due("hunter 3 in the middle", Play.tell(board, 3), "6,4 u L0");
        board.frames(34);
        check.due("hunter 4 has rested and chooses", Play.tell(board, 4), "7,4 l L0");
    }

    /** Hunter 1 goes to (11, 1): by its rule round the wall at (6, 1), since it may not turn back. */
    private static void huntersScatter(Check check) {
        MazeBoard board = Play.started("n5");
        String[] ways = {"5,2 u", "5,1 l", "4,1 d", "4,2 r", "5,2 r", "6,2 r", "7,2 r", "8,2 u", "8,1 r", "9,1 r",
            "10,1 r", "11,1 d"};
        for (String way : ways) {
            board.frames(1);
            check.due("hunter 1", Play.tell(board, 1), way);
            board.frames(4);
        }
    }

    /** The player stands at (4, 6) and looks to the left; CHASE begins with MODE time 100. */
    private static void huntersChase(Check check) {
        MazeBoard board = Play.started("n60 n39");
        check.due("MODE time", board.look(8), 99);
        board.kick();
        board.frames(52);
        check.due("MODE time", board.look(8), 151);
        check.due("the player", Play.tell(board, 0), "4,6 l");
        check.due("hunter 1 is above it", Play.tell(board, 1), "4,5 d");
        check.due("hunter 2 comes along its row", Play.tell(board, 2), "6,6 l");
        check.due("hunter 3", Play.tell(board, 3), "3,4 d");
        check.due("hunter 4 is not near", Play.tell(board, 4), "4,3 l");
    }

    private static void death(Check check) {
        MazeBoard board = Play.started(Play.UNTIL_BEFORE_DEATH);
        check.due("LIVES", board.look(3), 3);
        check.due("MODE time", board.look(8), 151);
        board.frames(1);
        check.due("LIVES after death", board.look(3), 2);
        check.due("the actors after death", Play.tellAll(board), Play.PLACED);
        for (int i = 0; i <= 4; i++) {
            check.due("progress(" + i + ") after death", board.progress(i), 0f);
        }
        check.due("MODE time after death", board.look(8), 0);
        check.due("a game is on", board.look(0), 1);
        check.due("score", board.look(1), 20);
        check.due("dots are not there again", board.look(6), 52);
        board.kick();
        Play.play(board, "n60 k n60 k n32");
        check.due("LIVES after the second death", board.look(3), 1);
        board.kick();
        Play.play(board, "n60 k n60 k n31");
        check.due("the last life", board.look(3), 1);
        board.frames(1);
        check.due("no life", board.look(3), 0);
        check.due("the game is over", board.look(0), 0);
        check.due("all stay where they are", Play.tell(board, 0) + "; " + Play.tell(board, 1), "4,6 l; 4,6 d");
        check.due("MODE time stays", board.look(8), 152);
        board.frames(5);
        check.due("nothing moves any more", Play.tell(board, 1), "4,6 d");
    }

    private static void chainAndExtraLife(Check check) {
        MazeBoard board = Play.started("r60 k d5 l60 k r60 k u25 d2");
        check.due("score", board.look(1), 160);
        check.due("hunter 4 is near", Play.tell(board, 4), "11,1 d F");
        board.frames(1);
        check.due("score, and 200", board.look(1), 360);
        check.due("CHAIN", board.look(9), 1);
        check.due("hunter 4 is at home", Play.tell(board, 4), "6,4 u L30");
        check.due("progress(4)", board.progress(4), 0f);
        board.frames(7);
        check.due("score, and 400", board.look(1), 760);
        check.due("CHAIN", board.look(9), 2);
        check.due("LIVES", board.look(3), 3);
        Play.play(board, "d50 k u30");
        check.due("score, and 50", board.look(1), 810);
        check.due("CHAIN begins again", board.look(9), 0);
        Play.play(board, "d10");
        check.due("score, and 200", board.look(1), 1010);
        Play.play(board, "d5");
        check.due("score, and 400, and 800", board.look(1), 2210);
        check.due("CHAIN", board.look(9), 3);
        check.due("both are at home", Play.tell(board, 1) + "; " + Play.tell(board, 2), "6,4 u L30; 6,4 u L30");
        Play.play(board, "d35");
        check.due("LIVES below 3000", board.look(3), 3);
        Play.play(board, "d1");
        check.due("score, and 1600", board.look(1), 3810);
        check.due("CHAIN stays", board.look(9), 3);
        check.due("LIVES from 3000 on", board.look(3), 4);
        check.due("the best", board.look(2), 3810);
        Play.play(board, "u20");
        check.due("LIVES grow once", board.look(3), 4);
    }

    private static void extraLifeAtTheEdge(Check check) {
        MazeBoard board = Play.started(Ways.BEFORE_3000);
        check.due("score below the edge", board.look(1), 2950);
        check.due("LIVES below the edge", board.look(3), 3);
        board.frames(1);
        check.due("score at the edge", board.look(1), 3000);
        check.due("LIVES at the edge", board.look(3), 4);
    }

    private static void extraLifeInEachGame(Check check) {
        MazeBoard board = Play.started(Ways.BEFORE_3000 + " d1");
        Play.untilOver(board);
        check.due("the game is over", board.look(0), 0);
        board.coin();
        board.start();
        Play.play(board, Ways.BEFORE_3000);
        check.due("LIVES in the second game", board.look(3), 3);
        board.frames(1);
        check.due("LIVES at the edge in the second game", board.look(3), 4);
    }

    private static void nextLevel(Check check) {
        MazeBoard board = Play.started(Ways.FIRST_LEVEL);
        check.due("LEVEL", board.look(4), 1);
        check.due("left", board.look(6), 1);
        int score = board.look(1);
        Play.play(board, "d4");
        check.due("LEVEL before the last dot", board.look(4), 1);
        board.frames(1);
        check.due("LEVEL after the last dot", board.look(4), 2);
        check.due("score after the last dot", board.look(1), score + 10);
        check.due("dots are there again", board.look(6), 54);
        check.due("all are placed", Play.tellAll(board), Play.PLACED);
        check.due("MODE time", board.look(8), 0);
        board.frames(1);
        check.due("progress(0) in level 2", board.progress(0), 0.2f * (1f + 0.05f * 2));
        check.due("progress(1) in level 2", board.progress(1), 0.19f * (1f + 0.04f * 2));
    }

    /** The level waits for a frame in which the player does not die. */
    private static void deathWithLastDot(Check check) {
        MazeBoard board = Play.started(Ways.BEFORE_LAST_DEATH);
        check.due("left", board.look(6), 1);
        int lives = board.look(3);
        board.frames(1);
        check.due("left after death", board.look(6), 0);
        check.due("LIVES after death", board.look(3), lives - 1);
        check.due("LEVEL after death", board.look(4), 1);
        check.due("all are placed", Play.tellAll(board), Play.PLACED);
        board.frames(1);
        check.due("LEVEL a frame later", board.look(4), 2);
        check.due("left a frame later", board.look(6), 54);
        check.due("all are placed again", Play.tellAll(board), Play.PLACED);
        check.due("progress(0)", board.progress(0), 0f);
        check.due("MODE time", board.look(8), 0);
    }
}
