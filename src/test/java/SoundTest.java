/** Promise 13: sound, with the pitches of step 6 of a frame. */
public final class SoundTest {
    public static void main(String[] args) {
        Check check = new Check();
        hum(check);
        energizer(check);
        death(check);
        check.end();
    }

    private static float wave(int accumulator, float volume) {
        return ((((short) accumulator) >> 8 & 15) - 7.5f) * volume;
    }

    /** While a player stands at a wall and voice 0 has died away only voice 1 is left to hear. */
    private static void hum(Check check) {
        MazeBoard board = Play.started();
        int first = 0;
        int second = 0;
        int firstPitch = 0;
        int secondPitch = 0;
        float firstVolume = 0f;
        check.due("sound() before the first frame", board.sound(), 0f);
        for (int frame = 1; frame <= 140; frame++) {
            board.frames(1);
            first += firstPitch;
            second += secondPitch;
            firstVolume = firstVolume * 0.9f;
            if (frame == 5 || frame == 10) {
                firstVolume = 1f;
                firstPitch = 900;
            }
            secondPitch = frame < 100 ? 300 : 310;
            check.due("sound() in frame " + frame, board.sound(), 0f + wave(first, firstVolume) + wave(second, 0.5f));
            if (frame == 60 || frame == 119) {
                board.kick();
            }
        }
    }

    private static void energizer(Check check) {
        MazeBoard board = Play.started("l10 d5 l14");
        float firstVolume = board.volume(0);
        int first = 24 * 900;
        int second = 28 * 300;
        int third = 0;
        check.due("sound() before", board.sound(), 0f + wave(first, firstVolume) + wave(second, 0.5f));
        float thirdVolume = 1.5f;
        for (int frame = 30; frame <= 100; frame++) {
            board.frames(1);
            first += 900;
            second += frame == 30 ? 300 : 600;
            third += frame == 30 ? 0 : 1500;
            firstVolume = firstVolume * 0.9f;
            if (frame > 30) {
                thirdVolume = thirdVolume * 0.9f;
            }
            check.due("sound() in frame " + frame, board.sound(),
                0f + wave(first, firstVolume) + wave(second, 0.5f) + wave(third, thirdVolume));
        }
    }

    /** Placing makes the MODE time 0, so that voice 1 sounds as in SCATTER from that very frame on. */
    private static void death(Check check) {
        MazeBoard board = Play.started(Play.UNTIL_BEFORE_DEATH);
        float firstVolume = board.volume(0);
        int first = 146 * 900;
        int second = 99 * 300 + 51 * 310;
        check.due("sound() before", board.sound(), 0f + wave(first, firstVolume) + wave(second, 0.5f));
        float thirdVolume = 1.5f;
        int third = 0;
        for (int frame = 152; frame <= 156; frame++) {
            board.frames(1);
            first += 900;
            second += frame == 152 ? 310 : 300;
            third += frame == 152 ? 0 : 100;
            firstVolume = firstVolume * 0.9f;
            if (frame > 152) {
                thirdVolume = thirdVolume * 0.9f;
            }
            check.due("sound() in frame " + frame, board.sound(),
                0f + wave(first, firstVolume) + wave(second, 0.5f) + wave(third, thirdVolume));
        }
    }
}
