import java.util.Random;
import java.util.Set;
import java.util.TreeSet;

/** All promises at once: long runs, in which the class answers as the plain model of the document does. */
public final class ModelTest {
    /** Leaves one dot of the first level, below the player. */
    static final String FIRST_LEVEL =
        "d10 l15 u60 k r20 d5 r10 u5 r15 d35 k l15 u10 r5 u10 d5 r35 k d5 u10 r5 u5 r20 d5 u22 k d5 r15 ";

    /** Goes through eight levels in fewer than 512 calls. */
    private static final String EIGHT_LEVELS = FIRST_LEVEL
        + "d15 l20 u60 k r20 d5 r10 u5 r60 k d30 l20 u5 l15 k u5 l5 u5 l35 d5 u10 k l5 u5 l20 d5 l5 r18 "
        + "u60 k d10 l15 u60 k r59 d5 k r10 u39 l20 k d5 l15 d5 l5 d10 u5 l35 k u5 l5 u10 d10 r5 d10 l5 d5 "
        + "l15 k d15 l10 u29 r60 k d5 r10 u60 k r20 d20 l29 k u5 l15 u5 l5 u5 l35 k u5 l5 u5 l20 d5 l5 d5 "
        + "l35 k d5 l5 d60 k l60 k u30 r15 d5 r20 k u5 r15 d20 l29 k r10 u24 l5 r60 k d5 r5 d5 r20 u5 r5 "
        + "u10 l5 k u10 l5 d5 l10 u5 l5 d10 l15 k d5 l5 u60 k r20 d5 r15 u5 r5 d34 k l25 u5 l10 u10 l5 u5 "
        + "k l35 u5 d10 l5 d5 k l15 d5 l5 u10 l5 u10 r5 u5 k r15 u5 r5 d20 l10 u60 k r20 d5 r15 u5 r10 d35 "
        + "k l20 r10 l5 u10 r5 u5 r35 k u5 d10 r5 d5 r20 u5 r5 u10 k l5 u10 l60 k d5 l15 d15 l15 u60 k r20 "
        + "d5 r15 u5 l5 r20 k d30 l15 u10 r5 k u10 d5 r35 l25 k d15 l20 u5 l5 u14 l5 k u10 r5 u5 r20 d15";

    /** Hunter 3 has just entered (4, 7) with PROGRESS 0 when an energizer is eaten, and turns about. */
    static final String BEFORE_TURN =
        "r10 d5 k d60 d7 k r15 r60 r10 k u30 r23 k l20 d5 l10 u5 l19";

    /** Hunter 3 has just entered (11, 7) with PROGRESS 0, and there is a wall behind it. */
    static final String BEFORE_NO_TURN =
        "r10 d5 k d60 d7 k r15 r60 r14 k u30 r28 k l20 d5 l10 u5 l19";

    /** In the next frame an energizer brings the score to just 3000. */
    static final String BEFORE_3000 =
        "r60 k d5 l60 k r60 k u25 d60 k u30 d15 r25 k l20 r5 u20 d29";

    /** In the next frame the player eats the last dot of the first level and is caught there. */
    static final String BEFORE_LAST_DEATH = FIRST_LEVEL + "k l23 k r30 k l34 k r39 k d12 k l4";

    /** Rules that a run of calls has to reach, or else these tests would not see them broken. */
    private static final String[] RULES = {
        "a drawn direction is not taken", "a drawn direction is not taken, and the order goes on from 0",
        "a drawn direction is taken", "a frightened hunter changes cells with the player",
        "a hunter changes cells with the player", "a hunter goes round a side", "a leaving hunter is not frightened",
        "a life is lost", "a life is won with 3000 points",
        "a life is won with more points", "a hunter with PROGRESS 0 turns about",
        "a hunter with PROGRESS 0 cannot turn about", "a hunter that turned about changes cells with the player",
        "a reset during a game", "a reset without a game",
        "aim in chase of hunter 1", "aim in chase of hunter 2", "aim in chase of hunter 3", "aim in chase of hunter 4",
        "aim in scatter of hunter 1", "aim in scatter of hunter 2", "aim in scatter of hunter 3",
        "aim in scatter of hunter 4", "aim: the gate", "an energizer during fright", "an energizer ends a chain",
        "eaten as number 1 of a chain or later", "eaten as number 2 of a chain or later",
        "eaten as number 3 of a chain or later", "eaten as number 4 of a chain or later", "fright is over",
        "hunter 1 has left", "hunter 2 aims outside of the maze", "hunter 2 has left",
        "hunter 3 aims outside of the maze", "hunter 3 has left", "hunter 4 has left", "hunter 4 is near in chase",
        "level 2", "level 3", "level 4", "level 5", "level 6", "level 7", "level 8", "level 9", "the game is over",
        "the last chase", "the least fright by the bound", "the least fright by the rule",
        "the player comes to a wall", "the player dies during fright", "the player dies with the last dot",
        "the player goes on",
        "the player goes round a side", "the player stops though it goes straight on", "the player stops to turn",
        "the second scatter", "the third scatter", "two directions are as near",
    };

    private final Check check = new Check();
    private final Set<String> seen = new TreeSet<>();

    public static void main(String[] args) {
        ModelTest test = new ModelTest();
        test.scripts();
        test.bots();
        test.frameByFrame();
        for (int seed = 1; seed <= 60; seed++) {
            test.anyCalls(new Run(test.check, "any calls " + seed), seed);
        }
        for (String rule : RULES) {
            test.check.holds("a run reaches: " + rule, test.seen.contains(rule));
        }
        test.check.end();
    }

    private Run script(String name, String moves, int lastLevel) {
        Run run = new Run(check, name);
        run.coin();
        run.start();
        play(run, moves, lastLevel);
        return run;
    }

    private void play(Run run, String moves, int lastLevel) {
        int calls = 0;
        for (String move : moves.trim().split(" ")) {
            if (move.equals("k")) {
                run.kick();
                continue;
            }
            run.stick("nuldr".indexOf(move.charAt(0)) - 1);
            run.frames(Integer.parseInt(move.substring(1)));
            if (run.model.level == lastLevel) {
                break;
            }
            run.compareState();
            if (calls++ % 10 == 0) {
                run.compareMaze();
            }
            if (calls % 40 == 0) {
                run.comparePicture();
            }
        }
        seen.addAll(run.model.seen);
    }

    private void scripts() {
        script("eight levels", EIGHT_LEVELS, 0);
        script("a hunter turns about", BEFORE_TURN + " l1 l20", 0);
        script("a hunter cannot turn about", BEFORE_NO_TURN + " l1 l20", 0);
        script("3000 points", BEFORE_3000 + " d1 d20", 0);
        script("death with the last dot", BEFORE_LAST_DEATH + " l1 l1 l20", 0);
        // from level 4 on the steps of six cells without a stop add up to hardly more than 1
        Run straight = script("straight on", EIGHT_LEVELS, 6);
        play(straight, "k u5 l5 u5 l1 n23 n1 n1 n3 n1", 0);
        check.due("straight on: the last cell", straight.model.x[0] + "," + straight.model.y[0], "9,4");
        for (int level = 2; level <= 8; level++) {
            anyCalls(script("any calls in level " + level, EIGHT_LEVELS, level), level);
        }
    }

    private void bots() {
        bot("a bot for dots", new Bot(6, 1000, 0, 0));
        bot("a bot for hunters", new Bot(7, 1000, 3000, 0));
        bot("a bot that flees", new Bot(5, -500, 0, 0));
        bot("a bot that hunts and leaves the dots", new Bot(7, -500, 3000, 0));
        bot("a bot that turns seldom", new Bot(6, 1000, 3000, 1500));
    }

    private void bot(String name, Bot bot) {
        Run run = new Run(check, name);
        run.coin();
        run.start();
        bot.play(run, 40, 3000);
        run.compareMaze();
        run.comparePicture();
        seen.addAll(run.model.seen);
    }

    /** Every frame of a while, in one run with its whole picture. */
    private void frameByFrame() {
        for (int seed = 1; seed <= 3; seed++) {
            Random random = new Random(seed);
            Run run = new Run(check, "frame by frame " + seed);
            run.coin();
            run.start();
            for (int frame = 0; frame < 300; frame++) {
                if (random.nextInt(12) == 0) {
                    run.stick(random.nextInt(5) - 1);
                }
                if (frame % 100 == 99) {
                    run.kick();
                }
                run.frames(1);
                run.compareState();
                if (seed == 1 || frame % 10 == 0) {
                    run.comparePicture();
                }
            }
            seen.addAll(run.model.seen);
        }
    }

    /** Any calls in any order, wrong ones among them. */
    private void anyCalls(Run run, int seed) {
        Random random = new Random(seed);
        boolean careful = seed % 4 != 0;
        int most = seed % 3 == 0 ? 60 : 6;
        while (run.callsLeft() > 40) {
            int kind = random.nextInt(100);
            if (kind < 4) {
                run.coin();
            } else if (kind < 8) {
                run.start();
            } else if (kind < 10) {
                run.frames(new int[] {0, -1, 61, 60}[random.nextInt(4)]);
            } else if (kind < 12) {
                run.kick();
            } else if (kind < 50) {
                run.stick(random.nextInt(7) - 2);
            } else {
                if (careful && run.model.dog >= 59) {
                    run.kick();
                }
                run.frames(1 + random.nextInt(most));
            }
            run.compareState();
        }
        run.compareMaze();
        run.comparePicture();
        seen.addAll(run.model.seen);
    }
}
