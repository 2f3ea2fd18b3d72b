import java.util.Set;
import java.util.TreeSet;

/**
 * The document once more, as one plain run of statements: a second witness for the class.
 * It can be copied, so that a test may try out what would come of a call, and it keeps a list
 * of the rules that came to bear, so that a test can tell whether its runs reached them.
 */
final class Model {
    static final String[] PLAN = {
        "#############",
        "#o....#....o#",
        "#.##.....##.#",
        "#.#..#=#..#.#",
        "....#===#....",
        "#.#..###..#.#",
        "#.##.....##.#",
        "#o....#....o#",
        "#############",
    };
    static final int[] DX = {0, -1, 0, 1};
    static final int[] DY = {-1, 0, 1, 0};
    static final int[] CORNER_X = {0, 11, 1, 11, 1};
    static final int[] CORNER_Y = {0, 1, 1, 7, 7};

    boolean on;
    int score, best, lives, level, coins, fright, mode, chain, dog, count, g, stick;
    boolean extra;
    char[][] grid = new char[9][];
    int[] x = new int[5];
    int[] y = new int[5];
    int[] dir = new int[5];
    int[] rest = new int[5];
    float[] prog = new float[5];
    boolean[] scared = new boolean[5];
    boolean[] leaving = new boolean[5];
    short[] acc = new short[3];
    int[] pitch = new int[3];
    float[] vol = new float[3];
    int deaths, huntersEaten;
    Set<String> seen = new TreeSet<>();

    Model() {
        reset();
    }

    private void see(String rule) {
        if (seen != null) seen.add(rule);
    }

    private void see(boolean happened, String rule) {
        if (happened) see(rule);
    }

    /** A copy keeps no list: what is only tried out was not reached. */
    Model copy() {
        Model m = new Model();
        m.seen = null;
        m.on = on;
        m.score = score; m.best = best; m.lives = lives; m.level = level; m.coins = coins;
        m.fright = fright; m.mode = mode; m.chain = chain; m.dog = dog; m.count = count; m.g = g;
        m.stick = stick; m.extra = extra;
        for (int r = 0; r < 9; r++) m.grid[r] = grid[r].clone();
        m.x = x.clone(); m.y = y.clone(); m.dir = dir.clone(); m.rest = rest.clone();
        m.prog = prog.clone(); m.scared = scared.clone(); m.leaving = leaving.clone();
        m.acc = acc.clone(); m.pitch = pitch.clone(); m.vol = vol.clone();
        m.deaths = deaths; m.huntersEaten = huntersEaten;
        return m;
    }

    private void reset() {
        on = false;
        score = 0; lives = 0; level = 0; coins = 0; chain = 0; dog = 0; g = 1; stick = -1;
        extra = false;
        fill();
        place();
        acc = new short[3]; pitch = new int[3]; vol = new float[3];
    }

    private void fill() {
        for (int r = 0; r < 9; r++) grid[r] = PLAN[r].toCharArray();
    }

    private void put(int a, int column, int row, int direction, int resting) {
        x[a] = column; y[a] = row; dir[a] = direction; prog[a] = 0; rest[a] = resting;
        leaving[a] = resting != 0; scared[a] = false;
    }

    private void place() {
        put(0, 6, 6, 1, 0);
        put(1, 6, 2, 1, 0);
        put(2, 6, 4, 0, 40);
        put(3, 5, 4, 0, 80);
        put(4, 7, 4, 0, 120);
        fright = 0;
        mode = 0;
    }

    boolean coin() {
        if (coins == 9) return false;
        coins++;
        return true;
    }

    boolean start() {
        if (coins == 0 || on) return false;
        coins--;
        on = true;
        level = 1; lives = 3; score = 0; chain = 0; g = 1;
        extra = false;
        fill();
        place();
        return true;
    }

    boolean stick(int direction) {
        if (direction != -1 && direction != 0 && direction != 1 && direction != 2 && direction != 3) return false;
        stick = direction;
        return true;
    }

    void kick() {
        dog = 0;
    }

    int frames(int n) {
        if (n <= 0 || n > 60) return -1;
        for (int i = 0; i < n; i++) frame();
        return n;
    }

    char next(int a, int direction) {
        return grid[y[a] + DY[direction]][(x[a] + DX[direction] + 13) % 13];
    }

    boolean open(int a, int direction) {
        char c = next(a, direction);
        return a == 0 ? c != '#' && c != '=' : c != '#' && (c != '=' || leaving[a]);
    }

    private void enter(int a) {
        x[a] = (x[a] + DX[dir[a]] + 13) % 13;
        y[a] = y[a] + DY[dir[a]];
    }

    private void points(int p) {
        score += p;
        if (score > best) best = score;
        if (score >= 3000 && !extra) {
            extra = true;
            lives++;
            see(score == 3000 ? "a life is won with 3000 points" : "a life is won with more points");
        }
    }

    boolean scatter() {
        return mode <= 99 || mode > 299 && mode < 380 || mode > 599 && mode < 660;
    }

    int left() {
        int n = 0;
        for (char[] r : grid) for (char c : r) if (c == '.' || c == 'o') n++;
        return n;
    }

    private void frame() {
        boolean dot = false, prize = false, died = false, turned = false;
        if (on) {
            int[] ox = x.clone();
            int[] oy = y.clone();
            // 1
            if (fright > 0) {
                fright = fright - 1;
                if (fright == 0) {
                    see(scared[1] || scared[2] || scared[3] || scared[4], "fright is over");
                    scared = new boolean[5];
                }
            } else {
                mode = mode + 1;
            }
            // 2
            if (stick >= 0 && prog[0] == 0 && open(0, stick)) dir[0] = stick;
            boolean entered = false;
            if (open(0, dir[0])) {
                float speed = 0.2f * (1 + 0.05f * (level > 4 ? 4 : level));
                prog[0] += speed;
                if (prog[0] >= 1) {
                    enter(0);
                    entered = true;
                    prog[0] -= 1;
                    see(Math.abs(x[0] - ox[0]) > 1, "the player goes round a side");
                    see(!open(0, dir[0]), "the player comes to a wall");
                    see(open(0, dir[0]) && stick >= 0 && open(0, stick) && stick != dir[0], "the player stops to turn");
                    see(open(0, dir[0]) && stick == dir[0], "the player stops though it goes straight on");
                    see(open(0, dir[0]) && (stick < 0 || !open(0, stick)), "the player goes on");
                    if (!open(0, dir[0]) || stick >= 0 && open(0, stick)) prog[0] = 0;
                }
            } else {
                prog[0] = 0;
            }
            if (entered) {
                char c = grid[y[0]][x[0]];
                grid[y[0]][x[0]] = ' ';
                if (c == '.') {
                    dot = true;
                    points(10);
                }
                if (c == 'o') {
                    prize = true;
                    turned = true;
                    points(50);
                    fright = 100 - 15 * level;
                    see(fright == 10, "the least fright by the rule");
                    see(fright < 10, "the least fright by the bound");
                    if (fright < 10) fright = 10;
                    see(chain > 0, "an energizer ends a chain");
                    see(scared[1] || scared[2] || scared[3] || scared[4], "an energizer during fright");
                    chain = 0;
                    for (int h = 1; h <= 4; h++) {
                        see(leaving[h], "a leaving hunter is not frightened");
                        if (leaving[h]) continue;
                        scared[h] = true;
                        int back = (dir[h] + 2) % 4;
                        see(prog[h] == 0, "a hunter with PROGRESS 0 " + (open(h, back) ? "turns" : "cannot turn") + " about");
                        if (prog[h] != 0) {
                            enter(h);
                            dir[h] = back;
                            prog[h] = 1 - prog[h];
                        } else if (open(h, back)) {
                            dir[h] = back;
                        }
                    }
                }
            }
            // 3
            for (int h = 1; h <= 4; h++) {
                if (rest[h] > 0) {
                    if (--rest[h] == 0) choose(h);
                    continue;
                }
                float speed = 0.19f * (1 + 0.04f * (level > 5 ? 5 : level));
                if (scared[h]) speed = speed / 2;
                prog[h] += speed;
                if (prog[h] >= 1) {
                    see(Math.abs(x[h] + DX[dir[h]] - 6) > 6, "a hunter goes round a side");
                    enter(h);
                    prog[h] -= 1;
                    see(leaving[h] && x[h] == 6 && y[h] == 2, "hunter " + h + " has left");
                    if (leaving[h] && x[h] == 6 && y[h] == 2) leaving[h] = false;
                    choose(h);
                }
            }
            // 4
            for (int h = 1; h <= 4; h++) {
                boolean same = x[h] == x[0] && y[h] == y[0];
                boolean changed = x[h] == ox[0] && y[h] == oy[0] && ox[h] == x[0] && oy[h] == y[0];
                if (!same && !changed) continue;
                see(!same, (scared[h] ? "a frightened hunter" : "a hunter") + " changes cells with the player");
                see(!same && turned, "a hunter that turned about changes cells with the player");
                if (scared[h]) {
                    see("eaten as number " + (chain + 1) + " of a chain or later");
                    int p = 200;
                    for (int i = 0; i < chain; i++) p = 2 * p;
                    points(p);
                    prize = true;
                    huntersEaten++;
                    if (chain < 3) chain++;
                    put(h, 6, 4, 0, 30);
                } else {
                    died = true;
                    deaths++;
                    lives--;
                    see(fright > 0, "the player dies during fright");
                    see(left() == 0, "the player dies with the last dot");
                    see(lives == 0 ? "the game is over" : "a life is lost");
                    if (lives == 0) on = false;
                    else place();
                    break;
                }
            }
            // 5
            if (!died && left() == 0) {
                level++;
                see("level " + level);
                fill();
                place();
            }
        }
        // 6
        for (int v = 0; v < 3; v++) {
            acc[v] += (short) pitch[v];
            vol[v] *= 0.9f;
        }
        if (dot) voice(0, 1, 900);
        if (on) voice(1, 0.5f, fright > 0 ? 600 : !scatter() ? 300 + 10 * level : 300);
        if (prize) voice(2, 1.5f, 1500);
        if (died) voice(2, 1.5f, 100);
        // 7
        count++;
        dog++;
        if (dog == 120) {
            see(on ? "a reset during a game" : "a reset without a game");
            reset();
        }
    }

    private void voice(int v, float volume, int p) {
        vol[v] = volume;
        pitch[v] = p;
    }

    private void choose(int h) {
        int back = (dir[h] + 2) % 4;
        boolean[] may = new boolean[4];
        int n = 0;
        for (int d = 0; d < 4; d++) {
            may[d] = d != back && open(h, d);
            if (may[d]) n++;
        }
        if (n == 0) may[back] = true;
        if (scared[h]) {
            g = g * 1103515245 + 12345;
            int d = (g >> 16) & 3;
            see("a drawn direction is " + (may[d] ? "taken" : d == 3 ? "not taken, and the order goes on from 0" : "not taken"));
            while (!may[d]) d = d == 3 ? 0 : d + 1;
            dir[h] = d;
            return;
        }
        int ax = x[0], ay = y[0];
        if (leaving[h]) {
            ax = 6;
            ay = 2;
        } else if (scatter()) {
            ax = CORNER_X[h];
            ay = CORNER_Y[h];
        } else if (h == 2) {
            ax = x[0] + 2 * DX[dir[0]];
            ay = y[0] + 2 * DY[dir[0]];
        } else if (h == 3) {
            ax = 2 * (x[0] + DX[dir[0]]) - x[1];
            ay = 2 * (y[0] + DY[dir[0]]) - y[1];
        } else if (h == 4 && square(x[4] - x[0]) + square(y[4] - y[0]) < 9) {
            ax = CORNER_X[4];
            ay = CORNER_Y[4];
        }
        boolean chase = !leaving[h] && !scatter();
        see(leaving[h] ? "aim: the gate" : (chase ? "aim in chase" : "aim in scatter") + " of hunter " + h);
        see(chase && h == 4 && ax == CORNER_X[4] && ay == CORNER_Y[4], "hunter 4 is near in chase");
        see(chase && (ax < 0 || ax > 12 || ay < 0 || ay > 8), "hunter " + h + " aims outside of the maze");
        see(!leaving[h] && scatter() && mode >= 300, mode >= 600 ? "the third scatter" : "the second scatter");
        see(!leaving[h] && mode >= 660, "the last chase");
        int chosen = -1;
        int least = 0;
        for (int d = 0; d < 4; d++) {
            if (!may[d]) continue;
            int far = square((x[h] + DX[d] + 13) % 13 - ax) + square(y[h] + DY[d] - ay);
            see(chosen >= 0 && far == least, "two directions are as near");
            if (chosen < 0 || far < least) {
                chosen = d;
                least = far;
            }
        }
        dir[h] = chosen;
    }

    private static int square(int n) {
        return n * n;
    }

    int look(int what) {
        int[] all = {on ? 1 : 0, score, best, lives, level, coins, left(), fright, mode, chain, dog, count};
        return what >= 0 && what < all.length ? all[what] : -1;
    }

    int actor(int a, int what) {
        if (a < 0 || a > 4) return -1;
        int[] all = {x[a], y[a], dir[a], scared[a] ? 1 : 0, rest[a], leaving[a] ? 1 : 0};
        return what >= 0 && what < all.length ? all[what] : -1;
    }

    float progress(int a) {
        return a < 0 || a > 4 ? 0 : prog[a];
    }

    int cell(int column, int row) {
        return column < 0 || column > 12 || row < 0 || row > 8 ? -1 : " #.o=".indexOf(grid[row][column]);
    }

    float volume(int v) {
        return v < 0 || v > 2 ? 0 : vol[v];
    }

    float sound() {
        float s = 0;
        for (int v = 0; v < 3; v++) s += ((acc[v] >> 8 & 15) - 7.5f) * vol[v];
        return s;
    }

    /** The whole picture, painted from the ground up: tiles, then hunters 4 to 1, then the player. */
    int[][] picture() {
        int[][] p = new int[36][52];
        for (int py = 0; py < 36; py++) {
            for (int px = 0; px < 52; px++) {
                char c = grid[py / 4][px / 4];
                int u = px % 4, v = py % 4;
                if (c == '#') p[py][px] = 1;
                if (c == '.' && u == 1 && v == 1) p[py][px] = 2;
                if (c == 'o' && u > 0 && u < 3 && v > 0 && v < 3 && (count & 8) == 0) p[py][px] = 2;
                if (c == '=' && v == 0) p[py][px] = 9;
            }
        }
        if (on) {
            String[] hunter = {" ## ", "####", "####", "####"};
            for (int h = 4; h >= 1; h--) paint(p, h, hunter, scared[h] ? 8 : 3 + h);
            String[][] open = {
                {"    ", "####", "####", " ## "},
                {" ## ", " ###", " ###", " ## "},
                {" ## ", "####", "####", "    "},
                {" ## ", "### ", "### ", " ## "},
            };
            String[] shut = {" ## ", "####", "####", " ## "};
            paint(p, 0, (count & 4) == 0 ? open[dir[0]] : shut, 3);
        }
        return p;
    }

    private void paint(int[][] p, int a, String[] shape, int colour) {
        int moved = (int) (prog[a] * 4);
        for (int v = 0; v < 4; v++) {
            for (int u = 0; u < 4; u++) {
                if (shape[v].charAt(u) != '#') continue;
                int px = (4 * x[a] + u + moved * DX[dir[a]] + 52) % 52;
                int py = (4 * y[a] + v + moved * DY[dir[a]] + 36) % 36;
                p[py][px] = colour;
            }
        }
    }
}
