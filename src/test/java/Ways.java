/** Ways through the maze that lead to rare places of a game, written as Play.play reads them. */
final class Ways {
    /** LEVELS[i] goes through level i + 1; in its last frame the last dot is eaten. */
    private static final String[] LEVELS = {
        "d10 l15 u60 k r20 d5 r10 u5 r15 d35 k l15 u10 r5 u10 d5 r35 k d5 u10 r5 u5 r20 d5 u22 k d5 r15 d5",
        "d10 l20 u60 k r20 d5 r10 u5 r60 k d30 l20 u5 l15 k u5 l5 u5 l35 d5 u10 k l5 u5 l20 d5 l5 r18 u10",
        "u50 k d10 l15 u60 k r59 d5 k r10 u39 l20 k d5 l15 d5 l5 d10 u5 l35 k u5 l5 u10 d10 r5 d10 l5 d5 l15 "
            + "k d5",
        "d10 l10 u29 r60 k d5 r10 u60 k r20 d20 l29 k u5 l15 u5 l5 u5 l35 k u5 l5 u5 l20 d5 l5 d5 l35 k d5 l5 "
            + "d5",
        "d55 k l60 k u30 r15 d5 r20 k u5 r15 d20 l29 k r10 u24 l5 r60 k d5 r5 d5 r20 u5 r5 u10 l5 k u10 l5 d5 "
            + "l10 u5 l5 d10 l5",
        "l10 k d5 l5 u60 k r20 d5 r15 u5 r5 d34 k l25 u5 l10 u10 l5 u5 k l35 u5 d10 l5 d5 k l15 d5 l5 u10 l5 "
            + "u10 r5 u5 k r15 u5 r5 d10",
        "d10 l10 u60 k r20 d5 r15 u5 r10 d35 k l20 r10 l5 u10 r5 u5 r35 k u5 d10 r5 d5 r20 u5 r5 u10 k l5 u10 "
            + "l60 k d5 l15 d5",
        "d10 l15 u60 k r20 d5 r15 u5 l5 r20 k d30 l15 u10 r5 k u10 d5 r35 l25 k d15 l20 u5 l5 u14 l5 k u10 r5 "
            + "u5 r20 d5",
    };

    /** Leaves one dot of the first level, below the player. */
    static final String FIRST_LEVEL = LEVELS[0].substring(0, LEVELS[0].lastIndexOf(' '));

    /** Leaves one energizer of the first level, (1, 7), below the player, which enters it in the next frame. */
    static final String ENERGIZER_IS_LAST =
        "l5 r10 d5 r20 u30 k l20 d5 r5 d5 r5 d5 r25 k u15 r15 d10 l5 d10 r5 k d10 r5 l15 r15 u5 r15 k u5 r5 u10 "
            + "l5 u5 l15 u5 l20 k d15 r5 l5 d14";

    /** In the next frame the player eats the last dot of the first level and is caught there. */
    static final String BEFORE_LAST_DEATH = FIRST_LEVEL + " k l23 k r30 k l34 k r39 k d12 k l4";

    /** Hunter 3 has just entered (4, 7) with PROGRESS 0 when an energizer is eaten, and turns about. */
    static final String BEFORE_TURN =
        "r10 d5 k d60 d7 k r15 r60 r10 k u30 r23 k l20 d5 l10 u5 l19";

    /** Hunter 3 has just entered (11, 7) with PROGRESS 0, and there is a wall behind it. */
    static final String BEFORE_NO_TURN =
        "r10 d5 k d60 d7 k r15 r60 r14 k u30 r28 k l20 d5 l10 u5 l19";

    /** In the next frame an energizer brings the score from 2950 to 3000. */
    static final String BEFORE_3000 =
        "r60 k d5 l60 k r60 k u25 d60 k u30 d15 r25 k l20 r5 u20 d29";

    /** In the next frame a dot brings the score from 2990 to 3000. */
    static final String AT_2990 =
        "l10 r20 l20 r20 k l20 r15 d5 r20 k u10 d10 u30 l20 k r20 l5 r5 d15 r15 k u15 d15 l24";

    private Ways() {
    }

    /** The moves after which a level has just begun. */
    static String toLevel(int level) {
        StringBuilder moves = new StringBuilder();
        for (int i = 0; i < level - 1; i++) {
            moves.append(LEVELS[i]).append(' ');
        }
        return moves.toString().trim();
    }
}
