/** Short ways to bring a board somewhere, and to tell where its actors are. */
final class Play {
    /** In these moves the first energizer, (1, 7), is eaten in frame 30, and no hunter is near. */
    static final String TO_ENERGIZER = "l10 d5 l15";

    /** Without a stick the player goes to (4, 6), stands there, and is caught by hunter 1 in frame 152. */
    static final String UNTIL_BEFORE_DEATH = "n60 k n60 k n31";

    private Play() {
    }

    static MazeBoard started() {
        MazeBoard board = new MazeBoard();
        board.coin();
        board.start();
        return board;
    }

    static MazeBoard started(String moves) {
        MazeBoard board = started();
        play(board, moves);
        return board;
    }

    /** "l10": the stick to the left (u, l, d, r; n for nowhere), then ten frames; "k": a kick. */
    static void play(MazeBoard board, String moves) {
        for (String move : moves.trim().split(" +")) {
            if (move.isEmpty()) {
                continue;
            }
            if (move.equals("k")) {
                board.kick();
                continue;
            }
            board.stick("nuldr".indexOf(move.charAt(0)) - 1);
            int frames = Integer.parseInt(move.substring(1));
            if (board.frames(frames) != frames) {
                throw new IllegalStateException(move + " was refused");
            }
        }
    }

    /** Lets frames pass, with kicks, until the player has lost all lives. */
    static void untilOver(MazeBoard board) {
        for (int i = 0; i < 40 && board.look(0) == 1; i++) {
            board.kick();
            board.frames(60);
        }
        board.kick();
    }

    /** Column, row and direction, then F for frightened, L for leaving with the frames to rest. */
    static String tell(MazeBoard board, int actor) {
        return board.actor(actor, 0) + "," + board.actor(actor, 1) + " " + "uldr".charAt(board.actor(actor, 2))
            + (board.actor(actor, 3) == 1 ? " F" : "")
            + (board.actor(actor, 5) == 1 ? " L" + board.actor(actor, 4) : board.actor(actor, 4) > 0 ? " rests" : "");
    }

    static String tellAll(MazeBoard board) {
        StringBuilder all = new StringBuilder(tell(board, 0));
        for (int actor = 1; actor <= 4; actor++) {
            all.append("; ").append(tell(board, actor));
        }
        return all.toString();
    }

    static final String PLACED = "6,6 l; 6,2 l; 6,4 u L40; 5,4 u L80; 7,4 u L120";

    /** Every answer of look, actor, progress, volume and sound: equal before and after a refused call. */
    static String everything(MazeBoard board) {
        StringBuilder all = new StringBuilder();
        for (int what = 0; what <= 11; what++) {
            all.append(board.look(what)).append(' ');
        }
        all.append(tellAll(board));
        for (int actor = 0; actor <= 4; actor++) {
            all.append(' ').append(board.progress(actor));
        }
        for (int voice = 0; voice <= 2; voice++) {
            all.append(' ').append(board.volume(voice));
        }
        return all.append(' ').append(board.sound()).toString();
    }

    /** The four times four points of a cell, row by row. */
    static String points(MazeBoard board, int column, int row) {
        return pointsFrom(board, 4 * column, 4 * row);
    }

    /** The four times four points to the right of and below a point, row by row, round the sides. */
    static String pointsFrom(MazeBoard board, int left, int top) {
        StringBuilder all = new StringBuilder();
        for (int y = top; y < top + 4; y++) {
            for (int x = left; x < left + 4; x++) {
                all.append(board.point((x + 52) % 52, y));
            }
            all.append(y < top + 3 ? "/" : "");
        }
        return all.toString();
    }
}
