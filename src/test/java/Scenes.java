import java.util.function.Supplier;
import java.util.function.ToIntFunction;

/** Scenes, runs of calls that are made anew, and what a call that answers a code does to them. */
final class Scenes {
    static final int[] NO_ROPE_OF_THREE = {Integer.MIN_VALUE, -1, 3, 11, 12, 31, 32, Integer.MAX_VALUE};
    static final int[] NO_PARISH = {Integer.MIN_VALUE, -1, 4, 32, Integer.MAX_VALUE};
    static final int[] NO_HOUR = {Integer.MIN_VALUE, -1, 24, 32, Integer.MAX_VALUE};
    static final int[] NO_STRENGTH = {Integer.MIN_VALUE, -1, 0, 10, Integer.MAX_VALUE};

    private Scenes() {
    }

    /**
     * Three ropes on the day 1, with something of all that an object can hold. No two of its counts of
     * pulls are the same: 4 wait, 3 were answered, 5 missed, 1 was a double, and 2 were taken away.
     */
    static UnheardBells busy() {
        UnheardBells x = Due.bells(0, 1, 2);
        Due.pullAndRing(x, 2, 7, 3);
        Due.pullAndRing(x, 2, 7, 9);
        Due.pullAndRing(x, 2, 8, 1);
        x.pull(1, 9, 9);
        x.pull(1, 9, 9);
        x.cancel(1);
        for (int pull = 0; pull < 4; pull++) {
            x.pull(1, 10, 9);
        }
        x.end();
        x.save();
        x.sensor(1, 0);
        x.pull(0, 2, 9);
        x.pull(0, 3, 8);
        x.ring();
        x.pull(0, 4, 7);
        x.pull(0, 4, 6);
        x.pull(2, 4, 5);
        x.pull(2, 9, 5);
        x.move(0, 0);
        x.ring();
        x.tell(0);
        Due.write(x, "e;r3");
        return x;
    }

    /** Twelve ropes, that of the number k in the parish k % 4. */
    static UnheardBells twelveRopes() {
        return Due.bells(0, 1, 2, 3, 0, 1, 2, 3, 0, 1, 2, 3);
    }

    /** A rope of which sixteen pulls wait, for the hours 3 to 18. */
    static UnheardBells sixteenPulls() {
        UnheardBells x = Due.bells(0);
        for (int pull = 0; pull < 16; pull++) {
            x.pull(0, 3 + pull, 9);
        }
        return x;
    }

    /** A rope 0 with so much rust, 9 at most, in the hour that is the rust. */
    static UnheardBells rusty(int rust) {
        UnheardBells x = Due.bells(0);
        for (int hour = 0; hour < rust; hour++) {
            Due.pullAndRing(x, 0, hour, 9);
        }
        x.pull(0, rust, 1);
        if (rust > 0) {
            x.ring();
        } else {
            x.cancel(0);
        }
        return x;
    }

    /** Four ropes, one of each parish, and so many answers, 36 at most: 24 on the day 0, the rest on the day 1. */
    static UnheardBells answers(int number) {
        UnheardBells x = Due.bells(0, 1, 2, 3);
        for (int answer = 0; answer < number; answer++) {
            if (answer == 24) {
                x.end();
            }
            if (answer == 24) {
                for (int rope = 0; rope < 4; rope++) {
                    x.oil(rope, 6);
                }
            }
            Due.pullAndRing(x, answer % 4, answer % 24, 9);
        }
        return x;
    }

    /** The call answers a code other than REFUSED, and all is as it was, the reasons too. */
    static void code(Due due, String call, Supplier<UnheardBells> scene, ToIntFunction<UnheardBells> made, int code) {
        UnheardBells x = scene.get();
        int reason = x.reason(false);
        int detail = x.reason(true);
        due.is(call, made.applyAsInt(x), code);
        due.is("the reason after " + call, x.reason(false), reason);
        due.is("the detail after " + call, x.reason(true), detail);
        leavesAll(due, call, scene, made);
    }

    /** The call is refused for the reason, and all else is as it was. */
    static void refused(Due due, String call, Supplier<UnheardBells> scene, ToIntFunction<UnheardBells> made,
            int reason, int detail) {
        UnheardBells x = scene.get();
        due.refused(x, call, made.applyAsInt(x), reason, detail);
        leavesAll(due, call, scene, made);
    }

    static void leavesAll(Due due, String call, Supplier<UnheardBells> scene, ToIntFunction<UnheardBells> made) {
        due.picture("the picture after " + call, Picture.of(() -> {
            UnheardBells x = scene.get();
            made.applyAsInt(x);
            return x;
        }), Picture.of(scene));
    }
}
