/** Plays well enough to see the later levels: it tries the ways ahead on copies of the model. */
final class Bot {
    private final int depth;
    private final int dotWorth;
    private final int hunterWorth;
    private final int turnCost;

    Bot(int depth, int dotWorth, int hunterWorth, int turnCost) {
        this.depth = depth;
        this.dotWorth = dotWorth;
        this.hunterWorth = hunterWorth;
        this.turnCost = turnCost;
    }

    /** Plays a run's game until it is over or few of the promised calls are left. */
    void play(Run run, int callsToKeep, int mostFrames) {
        int stick = -1;
        while (run.model.on && run.callsLeft() > callsToKeep && run.model.count < mostFrames) {
            int direction = choose(run.model);
            if (direction != stick) {
                run.stick(direction);
                stick = direction;
            }
            if (run.model.dog >= 60) {
                run.kick();
            }
            run.frames(framesThisWay(run.model, direction));
            run.compareState();
        }
    }

    /** As many frames as the bot would let pass in one direction, so that few calls go far. */
    private int framesThisWay(Model model, int direction) {
        Model copy = model.copy();
        int frames = 0;
        do {
            frames += step(copy, direction);
        } while (frames <= 50 && copy.on && copy.deaths == model.deaths && copy.level == model.level
            && choose(copy) == direction);
        return frames;
    }

    private int choose(Model model) {
        int best = 0;
        long most = Long.MIN_VALUE;
        for (int direction = 0; direction < 4; direction++) {
            if (!model.open(0, direction)) {
                continue;
            }
            Model copy = model.copy();
            copy.kick();
            step(copy, direction);
            long worth = worth(copy, model, depth - 1) - turn(model, direction);
            if (worth > most) {
                most = worth;
                best = direction;
            }
        }
        return best;
    }

    /** Goes on until the player has come to a cell's middle; how many frames that took. */
    private static int step(Model model, int direction) {
        model.stick(direction);
        int frames = 0;
        do {
            model.frames(1);
            frames++;
        } while (model.on && model.prog[0] != 0 && frames < 8);
        return frames;
    }

    private long worth(Model now, Model before, int more) {
        if (now.deaths > before.deaths) {
            return -1_000_000 + 1000L * (depth - more);
        }
        if (now.level > before.level) {
            return 900L * dotWorth + 1000L * more;
        }
        if (more == 0) {
            long dots = before.left() - now.left();
            long hunters = now.huntersEaten - before.huntersEaten;
            return dots * dotWorth + hunters * hunterWorth - (dotWorth > 0 ? 20L * way(now) : 0L);
        }
        long most = Long.MIN_VALUE;
        for (int direction = 0; direction < 4; direction++) {
            if (now.open(0, direction)) {
                Model copy = now.copy();
                copy.kick();
                step(copy, direction);
                most = Math.max(most, worth(copy, before, more - 1) - turn(now, direction));
            }
        }
        return most;
    }

    private int turn(Model model, int direction) {
        return model.stick == direction ? 0 : turnCost;
    }

    /** How many cells the player is away from the next dot. */
    private static int way(Model model) {
        int[] far = new int[117];
        int[] queue = new int[117];
        int end = 0;
        queue[end++] = model.y[0] * 13 + model.x[0];
        far[queue[0]] = 1;
        for (int i = 0; i < end; i++) {
            int column = queue[i] % 13;
            int row = queue[i] / 13;
            char here = model.grid[row][column];
            if (here == '.' || here == 'o') {
                return far[queue[i]];
            }
            for (int d = 0; d < 4; d++) {
                int next = (row + Model.DY[d]) * 13 + (column + Model.DX[d] + 13) % 13;
                char there = model.grid[next / 13][next % 13];
                if (far[next] == 0 && there != '#' && there != '=') {
                    far[next] = far[queue[i]] + 1;
                    queue[end++] = next;
                }
            }
        }
        return 60;
    }
}
