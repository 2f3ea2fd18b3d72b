import java.util.Set;
import java.util.TreeSet;

/** What step 6 of a frame lets be heard, told from a list of what happened in which frame. */
final class Ear {
    private final Set<Integer> dots = new TreeSet<>();
    private final Set<Integer> prizes = new TreeSet<>();
    private final Set<Integer> deaths = new TreeSet<>();
    private final int[] hums = new int[1000];

    Ear dotsIn(int... frames) {
        return note(dots, frames);
    }

    /** Energizers and hunters that were eaten. */
    Ear prizesIn(int... frames) {
        return note(prizes, frames);
    }

    Ear deathsIn(int... frames) {
        return note(deaths, frames);
    }

    /** From a frame on voice 1 has this pitch; 0: no game is on. */
    Ear humFrom(int frame, int pitch) {
        for (int i = frame; i < hums.length; i++) {
            hums[i] = pitch;
        }
        return this;
    }

    private Ear note(Set<Integer> list, int[] frames) {
        for (int frame : frames) {
            list.add(frame);
        }
        return this;
    }

    /** The sound after so many frames. */
    float soundAfter(int frames) {
        short[] accumulator = new short[3];
        int[] pitch = new int[3];
        float[] volume = new float[3];
        for (int frame = 1; frame <= frames; frame++) {
            for (int voice = 0; voice < 3; voice++) {
                accumulator[voice] += (short) pitch[voice];
                volume[voice] *= 0.9f;
            }
            if (dots.contains(frame)) {
                volume[0] = 1f;
                pitch[0] = 900;
            }
            if (hums[frame] != 0) {
                volume[1] = 0.5f;
                pitch[1] = hums[frame];
            }
            if (prizes.contains(frame) || deaths.contains(frame)) {
                volume[2] = 1.5f;
                pitch[2] = deaths.contains(frame) ? 100 : 1500;
            }
        }
        float sound = 0f;
        for (int voice = 0; voice < 3; voice++) {
            sound = sound + ((accumulator[voice] >> 8 & 15) - 7.5f) * volume[voice];
        }
        return sound;
    }

    /** Lets frames pass one by one, from the board's frame count on, and listens to each. */
    void listen(Check check, MazeBoard board, int frames) {
        int first = board.look(11) + 1;
        for (int frame = first; frame < first + frames; frame++) {
            board.frames(1);
            check.due("sound() in frame " + frame, board.sound(), soundAfter(frame));
        }
    }
}
