/** Promises 7 to 15: pulls, rings, days. */
public final class PullsTest {
    private static final Due due = new Due("PullsTest");

    public static void main(String[] args) {
        pull();
        pullOrder();
        cancel();
        ring();
        ringDoubles();
        ringRust();
        hour();
        end();
        endRust();
        waiting();
        would();
        forecast();
        due.end();
    }

    private static void pull() {
        UnheardBells x = Due.bells(0);
        due.is("pull(1, 0, 1)", x.pull(1, 0, 1), Due.NONE);
        due.is("pull(-1, 24, 0)", x.pull(-1, 24, 0), Due.NONE);
        due.is("pull(0, 24, 1)", x.pull(0, 24, 1), Due.BAD);
        due.is("pull(0, -1, 1)", x.pull(0, -1, 1), Due.BAD);
        due.is("pull(0, 0, 0)", x.pull(0, 0, 0), Due.BAD);
        due.is("pull(0, 0, 10)", x.pull(0, 0, 10), Due.BAD);
        due.is("none came", x.account(4), 0);
        due.is("pull(0, 23, 9)", x.pull(0, 23, 9), 0);
        due.is("pull(0, 5, 1)", x.pull(0, 5, 1), 0);
        due.is("ring()", x.ring(), 1);
        due.refused(x, "a pull for an hour that is past", x.pull(0, 4, 1), 2, 5);
        due.is("BAD is ahead of the reason 2", x.pull(0, 4, 0), Due.BAD);
        due.is("a pull for the hour that it is", x.pull(0, 5, 1), 0);
        for (int number = 2; number < 16; number++) {
            due.is("a pull behind all others", x.pull(0, 23, 1), number);
        }
        due.is("pulls that wait", x.account(1), 16);
        due.refused(x, "the pull 17", x.pull(0, 23, 1), 1, 16);
        due.refused(x, "the reason 2 is ahead of the reason 1", x.pull(0, 4, 1), 2, 5);
        due.is("pulls that came", x.account(4), 17);
    }

    private static void pullOrder() {
        UnheardBells x = Due.bells(0, 1, 2);
        due.is("the first", x.pull(1, 7, 5), 0);
        due.is("a later hour", x.pull(1, 8, 9), 1);
        due.is("an earlier hour", x.pull(1, 6, 1), 0);
        due.is("a weaker one", x.pull(0, 7, 4), 2);
        due.is("a stronger one", x.pull(2, 7, 6), 1);
        due.is("a higher rope", x.pull(2, 7, 5), 3);
        due.is("a lower rope", x.pull(0, 7, 5), 2);
        due.is("one that is alike in all", x.pull(1, 7, 5), 4);
        int[] ropes = {1, 2, 0, 1, 1, 2, 0, 1};
        for (int place = 0; place < ropes.length; place++) {
            due.is("the rope at " + place, x.waiting(place, 0), ropes[place]);
        }
    }

    private static void cancel() {
        UnheardBells x = Due.bells(0, 1);
        due.is("cancel(2)", x.cancel(2), Due.NONE);
        due.is("cancel(-1)", x.cancel(-1), Due.NONE);
        due.refused(x, "cancel without pulls", x.cancel(0), 6, 0);
        x.pull(1, 1, 1);
        x.pull(0, 2, 2);
        x.pull(1, 3, 3);
        x.pull(0, 4, 4);
        x.pull(1, 5, 5);
        due.is("cancel(0)", x.cancel(0), 3);
        due.is("taken away", x.account(8), 2);
        due.is("the strength at 0", x.waiting(0, 2), 1);
        due.is("the strength at 1", x.waiting(1, 2), 3);
        due.is("the strength at 2", x.waiting(2, 2), 5);
        due.refused(x, "cancel of a rope without pulls", x.cancel(0), 6, 3);
        due.is("cancel(1)", x.cancel(1), 0);
        due.is("taken away", x.account(8), 5);
        due.is("pulls that came stay", x.account(4), 5);
    }

    private static void ring() {
        UnheardBells x = Due.bells(0, 1);
        due.refused(x, "ring without pulls", x.ring(), 3, 0);
        x.sensor(1, 0);
        x.pull(0, 3, 1);
        x.pull(1, 4, 9);
        x.pull(0, 5, 1);
        x.pull(0, 5, 2);
        x.pull(0, 5, 9);
        due.is("an answer", x.ring(), 1);
        due.is("it becomes its hour", x.account(2), 3);
        due.is("its rust", x.ropeOf(0, 2), 1);
        due.is("a sensor that is off misses", x.ring(), 0);
        due.is("it becomes the hour of a missed one", x.account(2), 4);
        due.is("no rust comes with it", x.ropeOf(1, 2), 0);
        due.is("the strongest is answered", x.ring(), 1);
        due.is("the next is a double", x.ring(), 2);
        due.is("a double of the strength of rust", x.ring(), 2);
        due.is("no rust comes with doubles", x.ropeOf(0, 2), 2);
        due.refused(x, "ring after all", x.ring(), 3, 5);
        x.pull(0, 9, 2);
        due.is("the strength must be above the rust", x.ring(), 0);
        x.pull(0, 9, 3);
        due.is("one that follows a missed one in its hour", x.ring(), 1);
        x.pull(0, 10, 1);
        x.end();
        due.refused(x, "those missed as days end were not rung", x.ring(), 3, 7);
    }

    private static void ringDoubles() {
        UnheardBells x = Due.bells(0, 1);
        due.is("rope 0", Due.pullAndRing(x, 0, 2, 5), 1);
        due.is("another rope in the same hour", Due.pullAndRing(x, 1, 2, 5), 1);
        due.is("the same rope in the same hour", Due.pullAndRing(x, 0, 2, 9), 2);
        x.sensor(0, 0);
        due.is("a double with the sensor off", Due.pullAndRing(x, 0, 2, 9), 2);
        x.sensor(0, 1);
        due.is("the same rope in the next hour", Due.pullAndRing(x, 0, 3, 9), 1);
        x.pull(0, 23, 1);
        x.pull(0, 23, 9);
        due.is("the hour 23", x.ring(), 1);
        due.is("it becomes its hour by a double", x.ring(), 2);
        due.is("the hour", x.account(2), 23);
        x.end();
        due.is("the same hour of the next day", Due.pullAndRing(x, 0, 2, 9), 1);
        due.is("its doubles", x.ropeOf(0, 5), 3);
        due.is("all doubles", x.account(7), 3);
    }

    private static void ringRust() {
        UnheardBells x = Due.bells(0);
        for (int hour = 0; hour < 9; hour++) {
            due.is("answer " + hour, Due.pullAndRing(x, 0, hour, hour + 1), 1);
        }
        due.is("the most rust", x.ropeOf(0, 2), 9);
        due.is("a pull of strength 9", Due.pullAndRing(x, 0, 9, 9), 0);
        due.is("the rust stays", x.ropeOf(0, 2), 9);
    }

    private static void hour() {
        UnheardBells x = Due.bells(0, 1, 2);
        due.refused(x, "hour without pulls", x.hour(), 3, 0);
        x.sensor(2, 0);
        x.pull(0, 4, 3);
        x.pull(0, 4, 2);
        x.pull(1, 4, 1);
        x.pull(2, 4, 9);
        x.pull(1, 5, 1);
        x.pull(1, 5, 2);
        due.is("hour()", x.hour(), 2);
        due.is("the hour", x.account(2), 4);
        due.is("those that wait", x.account(1), 2);
        due.is("those missed", x.account(6), 1);
        due.is("doubles", x.account(7), 1);
        due.is("hour()", x.hour(), 1);
        due.is("the weaker one was a double", x.account(7), 2);
        due.refused(x, "hour after all", x.hour(), 3, 6);
        x.pull(2, 6, 9);
        due.is("an hour without answers", x.hour(), 0);
        due.is("its hour", x.account(2), 6);
        for (int number = 0; number < 16; number++) {
            x.pull(number % 3, 7, 1 + number % 9);
        }
        due.is("an hour of 16 pulls", x.hour(), 2);
        due.is("none of them waits", x.account(1), 0);
    }

    private static void end() {
        UnheardBells x = Due.bells(0, 1);
        due.is("end()", x.end(), 0);
        due.is("the day", x.account(3), 1);
        x.pull(0, 3, 9);
        x.pull(0, 5, 9);
        x.pull(1, 6, 9);
        x.ring();
        due.is("answered(3)", x.answered(3), 1);
        due.is("end()", x.end(), 2);
        due.is("the day", x.account(3), 2);
        due.is("the hour", x.account(2), 0);
        due.is("none waits", x.account(1), 0);
        due.is("those missed", x.account(6), 2);
        due.is("missed of rope 0", x.ropeOf(0, 4), 1);
        due.is("missed of rope 1", x.ropeOf(1, 4), 1);
        due.is("nothing is answered on the new day", x.answered(3), 0);
        due.is("an hour that was past", x.pull(0, 0, 1), 0);
    }

    private static void endRust() {
        UnheardBells x = Due.bells(0, 0, 0);
        for (int rope = 0; rope < 2; rope++) {
            Due.pullAndRing(x, rope, 0, 9);
            Due.pullAndRing(x, rope, 1 + rope, 9);
            x.end();
        }
        due.is("the rust of rope 0, not answered on one day", x.ropeOf(0, 2), 1);
        due.is("the rust of rope 1, answered on each", x.ropeOf(1, 2), 2);
        due.is("the rust of rope 2 is not below 0", x.ropeOf(2, 2), 0);
        Due.pullAndRing(x, 1, 0, 2);
        Due.pullAndRing(x, 0, 23, 9);
        due.is("rope 1 was missed", x.ropeOf(1, 4), 1);
        x.end();
        due.is("the rust of a rope that was missed alone", x.ropeOf(1, 2), 1);
        due.is("the rust of a rope answered in the hour 23", x.ropeOf(0, 2), 2);
    }

    private static void waiting() {
        UnheardBells x = Due.bells(0, 1, 2);
        x.pull(2, 7, 4);
        x.pull(1, 3, 6);
        due.is("waiting(0, 0)", x.waiting(0, 0), 1);
        due.is("waiting(0, 1)", x.waiting(0, 1), 3);
        due.is("waiting(0, 2)", x.waiting(0, 2), 6);
        due.is("waiting(1, 0)", x.waiting(1, 0), 2);
        due.is("waiting(1, 1)", x.waiting(1, 1), 7);
        due.is("waiting(1, 2)", x.waiting(1, 2), 4);
        due.is("waiting(2, 0)", x.waiting(2, 0), Due.NONE);
        due.is("waiting(-1, 9)", x.waiting(-1, 9), Due.NONE);
        due.is("waiting(1, 3)", x.waiting(1, 3), Due.BAD);
        due.is("waiting(1, -1)", x.waiting(1, -1), Due.BAD);
        x.ring();
        due.is("what waits after a ring", x.waiting(0, 0), 2);
        due.is("its strength", x.waiting(0, 2), 4);
        due.is("no more waits", x.waiting(1, 0), Due.NONE);
    }

    private static void would() {
        UnheardBells x = Due.bells(0);
        due.is("would(1, 0)", x.would(1, 0), Due.NONE);
        due.is("would(-1, 1)", x.would(-1, 1), Due.NONE);
        due.is("would(0, 0)", x.would(0, 0), Due.BAD);
        due.is("would(0, 10)", x.would(0, 10), Due.BAD);
        due.is("would(0, 1)", x.would(0, 1), 1);
        due.is("would(0, 9)", x.would(0, 9), 1);
        Due.pullAndRing(x, 0, 0, 9);
        due.is("not above the rust", x.would(0, 1), 0);
        due.is("above the rust, though answered in this hour", x.would(0, 2), 1);
        x.sensor(0, 0);
        due.is("with the sensor off", x.would(0, 9), 0);
    }

    private static void forecast() {
        UnheardBells x = Due.bells(0, 1, 2);
        bothForecasts(x, "without pulls", 0);
        x.pull(0, 1, 1);
        x.pull(0, 2, 1);
        bothForecasts(x, "the second is not above the rust of the first", 1);
        x.pull(0, 2, 2);
        bothForecasts(x, "a stronger one in its hour", 2);
        x.pull(1, 3, 1);
        x.pull(1, 3, 1);
        bothForecasts(x, "a double", 3);
        x.pull(2, 3, 9);
        bothForecasts(x, "another rope", 4);
        x.sensor(2, 0);
        bothForecasts(x, "a sensor that is off", 3);
        x.pull(0, 0, 9);
        bothForecasts(x, "one ahead of the others", 3);
        due.is("nothing was rung by that", x.account(1), 7);
        due.is("it is the hour as before", x.account(2), 0);
        due.is("no rust came with it", x.ropeOf(0, 2), 0);
        Due.pullAndRing(x, 0, 0, 9);
        x.pull(0, 0, 9);
        bothForecasts(x, "doubles of what was answered before", 2);
        x.end();
        x.pull(0, 0, 9);
        bothForecasts(x, "on the next day", 1);
        UnheardBells y = Due.bells(0);
        for (int hour = 0; hour < 12; hour++) {
            y.pull(0, hour, 9);
        }
        bothForecasts(y, "up to the most rust", 9);
        UnheardBells z = Due.bells(0, 1);
        for (int number = 0; number < 16; number++) {
            z.pull(number % 2, number, 9);
        }
        bothForecasts(z, "of 16 pulls", 16);
    }

    private static void bothForecasts(UnheardBells x, String when, int want) {
        due.is("forecast() " + when, x.forecast(), want);
        due.is("forecastAgain() " + when, x.forecastAgain(), want);
    }
}
