/** A maze game on its board: maze, hunters, coins, picture, sound and watchdog. */
public final class MazeBoard {
    private static final int COLUMNS = 13;
    private static final int ROWS = 9;

    private static final int NOTHING = 0;
    private static final int WALL = 1;
    private static final int DOT = 2;
    private static final int ENERGIZER = 3;
    private static final int HOUSE = 4;
    private static final int NO_CELL = -1;

    private static final int NOWHERE = -1;
    private static final int UP = 0;
    private static final int LEFT = 1;
    private static final int DOWN = 2;
    private static final int RIGHT = 3;
    private static final int DIRECTIONS = 4;

    private static final int ACTORS = 5;
    private static final int VOICES = 3;
    private static final int MOST_COINS = 9;
    private static final int MOST_FRAMES = 60;
    private static final int WATCHDOG_LIMIT = 120;

    private final Game game;
    private final Speaker speaker;
    private int coins;
    private int stickDirection;
    private int watchdog;
    private int frameCount;

    public MazeBoard() {
        game = new Game();
        speaker = new Speaker();
        stickDirection = NOWHERE;
    }

    public boolean coin() {
        if (coins >= MOST_COINS) {
            return false;
        }
        coins++;
        return true;
    }

    public boolean start() {
        if (coins == 0 || game.on) {
            return false;
        }
        coins--;
        game.begin();
        return true;
    }

    public boolean stick(int direction) {
        if (direction < NOWHERE || direction >= DIRECTIONS) {
            return false;
        }
        stickDirection = direction;
        return true;
    }

    public void kick() {
        watchdog = 0;
    }

    public int frames(int n) {
        if (n < 1 || n > MOST_FRAMES) {
            return -1;
        }
        for (int i = 0; i < n; i++) {
            game.playFrame(stickDirection);
            speaker.playFrame(game);
            frameCount++;
            watchdog++;
            if (watchdog == WATCHDOG_LIMIT) {
                reset();
            }
        }
        return n;
    }

    public int look(int what) {
        switch (what) {
            case 0: return game.on ? 1 : 0;
            case 1: return game.score;
            case 2: return game.best;
            case 3: return game.lives;
            case 4: return game.level;
            case 5: return coins;
            case 6: return game.maze.left;
            case 7: return game.fright;
            case 8: return game.modeTime;
            case 9: return game.chain;
            case 10: return watchdog;
            case 11: return frameCount;
            default: return -1;
        }
    }

    public int actor(int actor, int what) {
        if (actor < 0 || actor >= ACTORS) {
            return -1;
        }
        Actor asked = game.actors[actor];
        switch (what) {
            case 0: return asked.column;
            case 1: return asked.row;
            case 2: return asked.direction;
            case 3: return asked.frightened ? 1 : 0;
            case 4: return asked.resting;
            case 5: return asked.leaving ? 1 : 0;
            default: return -1;
        }
    }

    public float progress(int actor) {
        return actor < 0 || actor >= ACTORS ? 0f : game.actors[actor].progress;
    }

    public int cell(int column, int row) {
        return game.maze.whatIs(column, row);
    }

    public int point(int x, int y) {
        if (x < 0 || x >= Picture.WIDTH || y < 0 || y >= Picture.HEIGHT) {
            return -1;
        }
        if (game.on) {
            for (int i = 0; i < ACTORS; i++) {
                if (Picture.covers(game.actors[i], i, x, y, frameCount)) {
                    return Picture.spriteColour(game.actors[i], i);
                }
            }
        }
        return Picture.tileColour(game.maze, x, y, frameCount);
    }

    public float volume(int voice) {
        return voice < 0 || voice >= VOICES ? 0f : speaker.voices[voice].loudness;
    }

    public float sound() {
        float sum = 0f;
        for (int i = 0; i < VOICES; i++) {
            sum = sum + speaker.voices[i].sample();
        }
        return sum;
    }

    /** The count of frames and the best score outlive a reset. */
    private void reset() {
        game.clear();
        speaker.silence();
        coins = 0;
        stickDirection = NOWHERE;
        watchdog = 0;
    }

    private static int nextColumn(int column, int direction) {
        if (direction == LEFT) {
            return column == 0 ? COLUMNS - 1 : column - 1;
        }
        if (direction == RIGHT) {
            return column == COLUMNS - 1 ? 0 : column + 1;
        }
        return column;
    }

    private static int nextRow(int row, int direction) {
        return direction == UP ? row - 1 : direction == DOWN ? row + 1 : row;
    }

    private static int columnStep(int direction) {
        return direction == LEFT ? -1 : direction == RIGHT ? 1 : 0;
    }

    private static int rowStep(int direction) {
        return direction == UP ? -1 : direction == DOWN ? 1 : 0;
    }

    private static int opposite(int direction) {
        return direction ^ 2;
    }

    private static int distance(int column, int row, int otherColumn, int otherRow) {
        int across = column - otherColumn;
        int down = row - otherRow;
        return across * across + down * down;
    }

    /** The cells, and what is left to eat in them. */
    private static final class Maze {
        private static final byte[] PLAN = {
            1, 1, 1, 1, 1, 1, 1, 1, 1, 1, 1, 1, 1,
            1, 3, 2, 2, 2, 2, 1, 2, 2, 2, 2, 3, 1,
            1, 2, 1, 1, 2, 2, 2, 2, 2, 1, 1, 2, 1,
            1, 2, 1, 2, 2, 1, 4, 1, 2, 2, 1, 2, 1,
            2, 2, 2, 2, 1, 4, 4, 4, 1, 2, 2, 2, 2,
            1, 2, 1, 2, 2, 1, 1, 1, 2, 2, 1, 2, 1,
            1, 2, 1, 1, 2, 2, 2, 2, 2, 1, 1, 2, 1,
            1, 3, 2, 2, 2, 2, 1, 2, 2, 2, 2, 3, 1,
            1, 1, 1, 1, 1, 1, 1, 1, 1, 1, 1, 1, 1,
        };

        final byte[] cells;
        int left;

        Maze() {
            cells = new byte[COLUMNS * ROWS];
        }

        void refill() {
            left = 0;
            for (int i = 0; i < cells.length; i++) {
                cells[i] = PLAN[i];
                if (cells[i] == DOT || cells[i] == ENERGIZER) {
                    left++;
                }
            }
        }

        int whatIs(int column, int row) {
            if (column < 0 || column >= COLUMNS || row < 0 || row >= ROWS) {
                return NO_CELL;
            }
            return cells[row * COLUMNS + column];
        }

        /** The player never leaves, so that the house is closed to it by the hunters' rule too. */
        boolean isOpen(Actor actor, int direction) {
            int what = whatIs(nextColumn(actor.column, direction), nextRow(actor.row, direction));
            return what != WALL && what != NO_CELL && (what != HOUSE || actor.leaving);
        }

        /** Takes a dot or an energizer out of a cell, and tells what it took. */
        int eat(int column, int row) {
            int what = whatIs(column, row);
            if (what != DOT && what != ENERGIZER) {
                return NOTHING;
            }
            cells[row * COLUMNS + column] = NOTHING;
            left--;
            return what;
        }
    }

    /** The player or a hunter. */
    private static final class Actor {
        int column;
        int row;
        int direction;
        float progress;
        boolean frightened;
        boolean leaving;
        int resting;
        int columnBefore;
        int rowBefore;
        int aimColumn;
        int aimRow;

        /** Whoever has to rest does so in the house, and has to leave it. */
        void place(int newColumn, int newRow, int newDirection, int rest) {
            column = newColumn;
            row = newRow;
            direction = newDirection;
            progress = 0f;
            frightened = false;
            leaving = rest > 0;
            resting = rest;
        }

        void rememberCell() {
            columnBefore = column;
            rowBefore = row;
        }

        void enterNextCell() {
            column = nextColumn(column, direction);
            row = nextRow(row, direction);
        }

        boolean isAt(int someColumn, int someRow) {
            return column == someColumn && row == someRow;
        }

        boolean meets(Actor other) {
            return isAt(other.column, other.row)
                || isAt(other.columnBefore, other.rowBefore) && other.isAt(columnBefore, rowBefore);
        }

        void aimAt(int someColumn, int someRow) {
            aimColumn = someColumn;
            aimRow = someRow;
        }
    }

    /** The game and the rules by which its frames go on. */
    private static final class Game {
        private static final int REWARDED_SCORE = 3000;
        private static final int LAST_IN_CHAIN = 3;
        private static final int GATE_COLUMN = 6;
        private static final int GATE_ROW = 2;
        private static final int SHY_DISTANCE = 9;

        final Maze maze;
        final Actor[] actors;
        final Actor player;
        boolean on;
        int score;
        int best;
        int lives;
        int level;
        int chain;
        boolean rewarded;
        int fright;
        int modeTime;
        int generator;
        boolean dotEaten;
        boolean prizeEaten;
        boolean playerDied;

        Game() {
            maze = new Maze();
            actors = new Actor[ACTORS];
            for (int i = 0; i < ACTORS; i++) {
                actors[i] = new Actor();
            }
            player = actors[0];
            clear();
        }

        void clear() {
            on = false;
            lives = 0;
            level = 0;
            setUp();
        }

        void begin() {
            on = true;
            lives = 3;
            level = 1;
            setUp();
        }

        private void setUp() {
            score = 0;
            chain = 0;
            rewarded = false;
            generator = 1;
            maze.refill();
            placeActors();
        }

        private void placeActors() {
            player.place(6, 6, LEFT, 0);
            actors[1].place(GATE_COLUMN, GATE_ROW, LEFT, 0);
            actors[2].place(6, 4, UP, 40);
            actors[3].place(5, 4, UP, 80);
            actors[4].place(7, 4, UP, 120);
            fright = 0;
            modeTime = 0;
        }

        void playFrame(int stick) {
            dotEaten = false;
            prizeEaten = false;
            playerDied = false;
            if (!on) {
                return;
            }
            for (int i = 0; i < ACTORS; i++) {
                actors[i].rememberCell();
            }
            passTime();
            if (movePlayer(stick)) {
                eatHere();
            }
            for (int i = 1; i < ACTORS; i++) {
                moveHunter(i);
            }
            meetHunters();
            if (maze.left == 0 && !playerDied) {
                level++;
                maze.refill();
                placeActors();
            }
        }

        private void passTime() {
            if (fright == 0) {
                modeTime++;
                return;
            }
            fright--;
            if (fright == 0) {
                for (int i = 1; i < ACTORS; i++) {
                    actors[i].frightened = false;
                }
            }
        }

        private boolean isScatter() {
            return modeTime < 100
                || modeTime >= 300 && modeTime <= 379
                || modeTime >= 600 && modeTime <= 659;
        }

        /** True if the player entered a cell. */
        private boolean movePlayer(int stick) {
            if (player.progress == 0f && isStickOpen(stick)) {
                player.direction = stick;
            }
            if (!maze.isOpen(player, player.direction)) {
                player.progress = 0f;
                return false;
            }
            player.progress = player.progress + 0.2f * (1f + 0.05f * Math.min(level, 4));
            if (player.progress < 1f) {
                return false;
            }
            player.enterNextCell();
            player.progress = player.progress - 1f;
            if (!maze.isOpen(player, player.direction) || isStickOpen(stick)) {
                player.progress = 0f;
            }
            return true;
        }

        private boolean isStickOpen(int stick) {
            return stick != NOWHERE && maze.isOpen(player, stick);
        }

        private void eatHere() {
            int eaten = maze.eat(player.column, player.row);
            if (eaten == DOT) {
                dotEaten = true;
                addPoints(10);
            } else if (eaten == ENERGIZER) {
                prizeEaten = true;
                addPoints(50);
                frightenHunters();
            }
        }

        private void addPoints(int points) {
            score += points;
            best = Math.max(best, score);
            if (score >= REWARDED_SCORE && !rewarded) {
                rewarded = true;
                lives++;
            }
        }

        private void frightenHunters() {
            fright = Math.max(100 - 15 * level, 10);
            chain = 0;
            for (int i = 1; i < ACTORS; i++) {
                if (!actors[i].leaving) {
                    actors[i].frightened = true;
                    turnAbout(actors[i]);
                }
            }
        }

        private void turnAbout(Actor hunter) {
            int back = opposite(hunter.direction);
            if (hunter.progress != 0f) {
                hunter.enterNextCell();
                hunter.direction = back;
                hunter.progress = 1f - hunter.progress;
            } else if (maze.isOpen(hunter, back)) {
                hunter.direction = back;
            }
        }

        private void moveHunter(int number) {
            Actor hunter = actors[number];
            if (hunter.resting > 0) {
                hunter.resting--;
                if (hunter.resting == 0) {
                    chooseDirection(hunter, number);
                }
                return;
            }
            float speed = 0.19f * (1f + 0.04f * Math.min(level, 5));
            hunter.progress = hunter.progress + (hunter.frightened ? speed / 2f : speed);
            if (hunter.progress < 1f) {
                return;
            }
            hunter.enterNextCell();
            hunter.progress = hunter.progress - 1f;
            if (hunter.isAt(GATE_COLUMN, GATE_ROW)) {
                hunter.leaving = false;
            }
            chooseDirection(hunter, number);
        }

        private void chooseDirection(Actor hunter, int number) {
            if (hunter.frightened) {
                hunter.direction = firstOpenFrom(drawNumber(), hunter);
            } else {
                setAim(hunter, number);
                hunter.direction = nearestToAim(hunter);
            }
        }

        private int drawNumber() {
            generator = generator * 1103515245 + 12345;
            return (generator >> 16) & 3;
        }

        private int firstOpenFrom(int first, Actor hunter) {
            int back = opposite(hunter.direction);
            for (int i = 0; i < DIRECTIONS; i++) {
                int direction = (first + i) % DIRECTIONS;
                if (direction != back && maze.isOpen(hunter, direction)) {
                    return direction;
                }
            }
            return back;
        }

        private int nearestToAim(Actor hunter) {
            int back = opposite(hunter.direction);
            int nearest = back;
            int least = Integer.MAX_VALUE;
            for (int direction = 0; direction < DIRECTIONS; direction++) {
                if (direction == back || !maze.isOpen(hunter, direction)) {
                    continue;
                }
                int column = nextColumn(hunter.column, direction);
                int row = nextRow(hunter.row, direction);
                int far = distance(column, row, hunter.aimColumn, hunter.aimRow);
                if (far < least) {
                    least = far;
                    nearest = direction;
                }
            }
            return nearest;
        }

        private void setAim(Actor hunter, int number) {
            if (hunter.leaving) {
                hunter.aimAt(GATE_COLUMN, GATE_ROW);
            } else if (isScatter() || number == 4 && isNearPlayer(hunter)) {
                hunter.aimAt(number == 1 || number == 3 ? 11 : 1, number <= 2 ? 1 : 7);
            } else {
                aimAtPlayer(hunter, number);
            }
        }

        private boolean isNearPlayer(Actor hunter) {
            return distance(hunter.column, hunter.row, player.column, player.row) < SHY_DISTANCE;
        }

        private void aimAtPlayer(Actor hunter, int number) {
            int across = columnStep(player.direction);
            int down = rowStep(player.direction);
            if (number == 2) {
                hunter.aimAt(player.column + 2 * across, player.row + 2 * down);
            } else if (number == 3) {
                hunter.aimAt(2 * (player.column + across) - actors[1].column,
                    2 * (player.row + down) - actors[1].row);
            } else {
                hunter.aimAt(player.column, player.row);
            }
        }

        private void meetHunters() {
            for (int i = 1; i < ACTORS && !playerDied; i++) {
                Actor hunter = actors[i];
                if (!hunter.meets(player)) {
                    continue;
                }
                if (hunter.frightened) {
                    eatHunter(hunter);
                } else {
                    loseLife();
                }
            }
        }

        private void eatHunter(Actor hunter) {
            prizeEaten = true;
            addPoints(200 << chain);
            chain = Math.min(chain + 1, LAST_IN_CHAIN);
            hunter.place(6, 4, UP, 30);
        }

        private void loseLife() {
            playerDied = true;
            lives--;
            if (lives == 0) {
                on = false;
            } else {
                placeActors();
            }
        }

        /** The pitch of the voice that sounds all through a game. */
        int humPitch() {
            if (fright > 0) {
                return 600;
            }
            return isScatter() ? 300 : 300 + 10 * level;
        }
    }

    /** One of the three voices. */
    private static final class Voice {
        short accumulator;
        int pitch;
        float loudness;

        void passFrame() {
            accumulator = (short) (accumulator + pitch);
            loudness = loudness * 0.9f;
        }

        void ring(float newLoudness, int newPitch) {
            loudness = newLoudness;
            pitch = newPitch;
        }

        void silence() {
            accumulator = 0;
            ring(0f, 0);
        }

        float sample() {
            return ((accumulator >> 8 & 15) - 7.5f) * loudness;
        }
    }

    /** The three voices: dots, the hum of a game, and what happens to hunters and player. */
    private static final class Speaker {
        final Voice[] voices;

        Speaker() {
            voices = new Voice[VOICES];
            for (int i = 0; i < VOICES; i++) {
                voices[i] = new Voice();
            }
        }

        void silence() {
            for (int i = 0; i < VOICES; i++) {
                voices[i].silence();
            }
        }

        void playFrame(Game game) {
            for (int i = 0; i < VOICES; i++) {
                voices[i].passFrame();
            }
            if (game.dotEaten) {
                voices[0].ring(1f, 900);
            }
            if (game.on) {
                voices[1].ring(0.5f, game.humPitch());
            }
            if (game.prizeEaten) {
                voices[2].ring(1.5f, 1500);
            }
            if (game.playerDied) {
                voices[2].ring(1.5f, 100);
            }
        }
    }

    /** What is seen at a point of the picture. */
    private static final class Picture {
        private static final int SIDE = 4;
        private static final int WIDTH = COLUMNS * SIDE;
        private static final int HEIGHT = ROWS * SIDE;

        static int tileColour(Maze maze, int x, int y, int frameCount) {
            int across = x % SIDE;
            int down = y % SIDE;
            switch (maze.whatIs(x / SIDE, y / SIDE)) {
                case WALL:
                    return 1;
                case DOT:
                    return across == 1 && down == 1 ? 2 : 0;
                case ENERGIZER:
                    return isMiddle(across) && isMiddle(down) && (frameCount & 8) == 0 ? 2 : 0;
                case HOUSE:
                    return down == 0 ? 9 : 0;
                default:
                    return 0;
            }
        }

        static int spriteColour(Actor actor, int number) {
            return actor.frightened ? 8 : 3 + number;
        }

        static boolean covers(Actor actor, int number, int x, int y, int frameCount) {
            int shift = (int) (actor.progress * 4f);
            int left = actor.column * SIDE + shift * columnStep(actor.direction);
            int top = actor.row * SIDE + shift * rowStep(actor.direction);
            int across = Math.floorMod(x - left, WIDTH);
            int down = Math.floorMod(y - top, HEIGHT);
            if (across >= SIDE || down >= SIDE) {
                return false;
            }
            if (number > 0) {
                return isMiddle(across) || down > 0;
            }
            boolean corner = !isMiddle(across) && !isMiddle(down);
            boolean mouthOpen = (frameCount & 4) == 0;
            return !corner && !(mouthOpen && isMouth(actor.direction, across, down));
        }

        private static boolean isMiddle(int place) {
            return place == 1 || place == 2;
        }

        private static boolean isMouth(int direction, int across, int down) {
            switch (direction) {
                case UP: return down == 0 && isMiddle(across);
                case LEFT: return across == 0 && isMiddle(down);
                case DOWN: return down == SIDE - 1 && isMiddle(across);
                default: return across == SIDE - 1 && isMiddle(down);
            }
        }
    }
}
