import java.util.Random;
import java.util.Set;
import java.util.TreeSet;

/** All promises at once: long runs, in which the class answers as the plain model of the document does. */
public final class ModelTest {
    /** Goes through eight levels in fewer than 512 calls. */
    private static final String EIGHT_LEVELS = Ways.toLevel(9) + " d10";

    /** Rules that a run of calls has to reach, or else these tests would not see them broken. */
    private static final String[] RULES = {
        "a drawn direction is not taken", "a drawn direction is not taken, and the order goes on from 0",
        "a drawn direction is taken", "a frightened hunter changes cells with the player",
        "a hunter changes cells with the player", "a hunter goes round a side", "a leaving hunter is not frightened",
        "a life is lost", "a life is won with 3000 points",
        "a life is won with more points", "a hunter with PROGRESS 0 turns about",
        "a hunter with PROGRESS 0 cannot turn about", "a hunter that turned about changes cells with the player",
        "a reset during a game", "a reset without a game",
        "aim in chase of hunter 1", "aim in chase of hunter 2", "aim in chase of hunter 3", "aim in chase of hunter 4",
        "aim in scatter of hunter 1", "aim in scatter of hunter 2", "aim in scatter of hunter 3",
        "aim in scatter of hunter 4", "aim: the gate", "an energizer during fright", "an energizer ends a chain",
        "eaten as number 1 of a chain or later", "eaten as number 2 of a chain or later",
        "eaten as number 3 of a chain or later", "eaten as number 4 of a chain or later", "fright is over",
        "hunter 1 has left", "hunter 2 aims outside of the maze", "hunter 2 has left",
        "hunter 3 aims outside of the maze", "hunter 3 has left", "hunter 4 has left", "hunter 4 is near in chase",
        "level 2", "level 3", "level 4", "level 5", "level 6", "level 7", "level 8", "level 9", "the game is over",
        "the last chase", "the least fright by the bound", "the least fright by the rule",
        "the player comes to a wall", "the player dies during fright", "the player dies with the last dot",
        "the player goes on",
        "the player goes round a side", "the player stops though it goes straight on", "the player stops to turn",
        "the second scatter", "the third scatter", "two directions are as near",
    };

    private final Check check = new Check();
    private final Set<String> seen = new TreeSet<>();

    public static void main(String[] args) {
        ModelTest test = new ModelTest();
        test.scripts();
        test.bots();
        test.frameByFrame();
        for (int seed = 1; seed <= 60; seed++) {
            test.anyCalls(new Run(test.check, "any calls " + seed), seed);
        }
        for (String rule : RULES) {
            test.check.holds("a run reaches: " + rule, test.seen.contains(rule));
        }
        test.check.end();
    }

    private Run script(String name, String moves, int lastLevel) {
        Run run = new Run(check, name);
        run.coin();
        run.start();
        play(run, moves, lastLevel);
        return run;
    }

    private void play(Run run, String moves, int lastLevel) {
        int calls = 0;
        for (String move : moves.trim().split(" ")) {
            if (move.equals("k")) {
                run.kick();
                continue;
            }
            run.stick("nuldr".indexOf(move.charAt(0)) - 1);
            run.frames(Integer.parseInt(move.substring(1)));
            if (run.model.level == lastLevel) {
                break;
            }
            run.compareState();
            if (calls++ % 10 == 0) {
                run.compareMaze();
            }
            if (calls % 40 == 0) {
                run.comparePicture();
            }
        }
        seen.addAll(run.model.seen);
    }

    private void scripts() {
        script("eight levels", EIGHT_LEVELS, 0);
        script("a hunter turns about", Ways.BEFORE_TURN + " l1 l20", 0);
        script("a hunter cannot turn about", Ways.BEFORE_NO_TURN + " l1 l20", 0);
        script("3000 points", Ways.BEFORE_3000 + " d1 d20", 0);
        script("death with the last dot", Ways.BEFORE_LAST_DEATH + " l1 l1 l20", 0);
        // from level 4 on the steps of six cells without a stop add up to hardly more than 1
        Run straight = script("straight on", EIGHT_LEVELS, 6);
        play(straight, "l10 k u5 l5 u5 l1 n23 n1 n1 n3 n1", 0);
        check.due("straight on: the last cell", straight.model.x[0] + "," + straight.model.y[0], "9,4");
        for (int level = 2; level <= 8; level++) {
            anyCalls(script("any calls in level " + level, EIGHT_LEVELS, level), level);
        }
    }

    private void bots() {
        bot("a bot for dots", new Bot(6, 1000, 0, 0));
        bot("a bot for hunters", new Bot(7, 1000, 3000, 0));
        bot("a bot that flees", new Bot(5, -500, 0, 0));
        bot("a bot that hunts and leaves the dots", new Bot(7, -500, 3000, 0));
        bot("a bot that turns seldom", new Bot(6, 1000, 3000, 1500));
    }

    private void bot(String name, Bot bot) {
        Run run = new Run(check, name);
        run.coin();
        run.start();
        bot.play(run, 40, 3000);
        run.compareMaze();
        run.comparePicture();
        seen.addAll(run.model.seen);
    }

    /** Every frame of a while, in one run with its whole picture. */
    private void frameByFrame() {
        for (int seed = 1; seed <= 3; seed++) {
            Random random = new Random(seed);
            Run run = new Run(check, "frame by frame " + seed);
            run.coin();
            run.start();
            for (int frame = 0; frame < 300; frame++) {
                if (random.nextInt(12) == 0) {
                    run.stick(random.nextInt(5) - 1);
                }
                if (frame % 100 == 99) {
                    run.kick();
                }
                run.frames(1);
                run.compareState();
                if (seed == 1 || frame % 10 == 0) {
                    run.comparePicture();
                }
            }
            seen.addAll(run.model.seen);
        }
    }

    /** Any calls in any order, wrong ones among them. */
    private void anyCalls(Run run, int seed) {
        Random random = new Random(seed);
        boolean careful = seed % 4 != 0;
        int most = seed % 3 == 0 ? 60 : 6;
        while (run.callsLeft() > 40) {
            int kind = random.nextInt(100);
            if (kind < 4) {
                run.coin();
            } else if (kind < 8) {
                run.start();
            } else if (kind < 10) {
                run.frames(new int[] {0, -1, 61, 60}[random.nextInt(4)]);
            } else if (kind < 12) {
                run.kick();
            } else if (kind < 50) {
                run.stick(random.nextInt(7) - 2);
            } else {
                if (careful && run.model.dog >= 59) {
                    run.kick();
                }
                run.frames(1 + random.nextInt(most));
            }
            run.compareState();
        }
        run.compareMaze();
        run.comparePicture();
        seen.addAll(run.model.seen);
    }
}
