/** The sentences of the promises 7 to 15: pulls, rings, days. */
final class PullSentences {
    private PullSentences() {
    }

    static void all(Sentences s) {
        pull(s);
        pullCodes(s);
        cancel(s);
        ring(s);
        hour(s);
        end(s);
        waiting(s);
        would(s);
        forecast(s);
        forecastAgain(s);
    }

    private static void pull(Sentences s) {
        s.in("Promise 7");
        s.says("Lets a pull wait.", due -> {
            UnheardBells x = Due.bells(0, 0);
            x.pull(1, 5, 7);
            due.is("those that wait", x.account(1), 1);
            due.is("those that came", x.account(4), 1);
            due.is("those of the rope", x.ropeOf(1, 6), 1);
            due.is("the hour", x.waiting(0, 1), 5);
            due.is("the strength", x.waiting(0, 2), 7);
        });
        s.says("Returns its place in the order, from 0", due -> {
            UnheardBells x = Due.bells(0, 0, 0);
            due.is("the first", x.pull(1, 12, 5), 0);
            due.is("at the end", x.pull(1, 23, 1), 1);
            due.is("at the beginning", x.pull(1, 0, 9), 0);
            due.is("between", x.pull(0, 12, 5), 1);
            due.is("behind one that is alike", x.pull(0, 12, 5), 2);
            due.is("behind a lower rope", x.pull(2, 12, 5), 4);
            due.is("behind a stronger one", x.pull(0, 12, 4), 5);
            due.is("at the end again", x.pull(2, 23, 1), 7);
            UnheardBells y = Due.bells(0);
            for (int hour = 15; hour >= 0; hour--) {
                due.is("ahead of " + y.account(1), y.pull(0, hour, 1), 0);
            }
        });
    }

    private static void pullCodes(Sentences s) {
        s.says("NONE if there is no such rope", due -> {
            for (int rope : Scenes.NO_ROPE_OF_THREE) {
                Scenes.code(due, "pull(" + rope + ", 9, 9)", Scenes::busy, x -> x.pull(rope, 9, 9), Due.NONE);
            }
            Scenes.code(due, "pull(0, 0, 1) without ropes", UnheardBells::new, x -> x.pull(0, 0, 1), Due.NONE);
            due.is("of no rope, when 16 wait", Scenes.sixteenPulls().pull(1, 0, 1), Due.NONE);
            due.is("of no rope, for an hour that is past", Scenes.busy().pull(3, 0, 1), Due.NONE);
        });
        s.says("BAD if a number is out of range", due -> {
            for (int hour : Scenes.NO_HOUR) {
                Scenes.code(due, "pull(0, " + hour + ", 9)", Scenes::busy, x -> x.pull(0, hour, 9), Due.BAD);
            }
            for (int strength : Scenes.NO_STRENGTH) {
                Scenes.code(due, "pull(0, 9, " + strength + ")", Scenes::busy, x -> x.pull(0, 9, strength), Due.BAD);
            }
            due.is("the strength 0, for an hour that is past", Scenes.busy().pull(0, 2, 0), Due.BAD);
            due.is("the strength 10, when 16 wait", Scenes.sixteenPulls().pull(0, 3, 10), Due.BAD);
        });
        s.says("REFUSED for the reason 2 or 1", due -> {
            Scenes.refused(due, "the hour before", Scenes::busy, x -> x.pull(0, 2, 9), 2, 3);
            Scenes.refused(due, "the hour 0", Scenes::busy, x -> x.pull(2, 0, 1), 2, 3);
            Scenes.refused(due, "the pull 17", Scenes::sixteenPulls, x -> x.pull(0, 23, 1), 1, 16);
            due.is("the hour that it is", Scenes.busy().pull(0, 3, 9), 0);
        });
    }

    private static void cancel(Sentences s) {
        s.in("Promise 8");
        s.says("Takes all pulls of a rope away that wait.", due -> {
            UnheardBells x = Due.bells(0, 0, 0);
            for (int pull = 0; pull < 16; pull++) {
                x.pull(pull % 3, pull, 9);
            }
            x.cancel(0);
            due.is("those of the rope", x.ropeOf(0, 6), 0);
            due.is("those of another", x.ropeOf(1, 6), 5);
            for (int place = 0; place < 10; place++) {
                due.is("the rope at " + place, x.waiting(place, 0), 1 + place % 2);
                due.is("the hour at " + place, x.waiting(place, 1), place / 2 * 3 + 1 + place % 2);
            }
            due.is("those taken away", x.account(8), 6);
            due.is("no place behind", x.waiting(10, 0), Due.NONE);
        });
        s.says("Returns how many wait then", due -> {
            due.is("none", Scenes.sixteenPulls().cancel(0), 0);
            due.is("two of others", Scenes.busy().cancel(0), 2);
            due.is("two of others", Scenes.busy().cancel(2), 2);
        });
        s.says("NONE if there is no such rope", due -> {
            for (int rope : Scenes.NO_ROPE_OF_THREE) {
                Scenes.code(due, "cancel(" + rope + ")", Scenes::busy, x -> x.cancel(rope), Due.NONE);
            }
            Scenes.code(due, "cancel(0) without ropes", UnheardBells::new, x -> x.cancel(0), Due.NONE);
        });
        s.says("REFUSED for the reason 6", due -> {
            Scenes.refused(due, "cancel when others wait", Scenes::busy, x -> x.cancel(1), 6, 4);
            Scenes.refused(due, "cancel when none waits", Scenes::twelveRopes, x -> x.cancel(11), 6, 0);
            Scenes.refused(due, "cancel when 16 of another wait", () -> {
                UnheardBells x = Scenes.sixteenPulls();
                x.rope(0);
                return x;
            }, x -> x.cancel(1), 6, 16);
        });
    }

    private static void ring(Sentences s) {
        s.in("Promise 9");
        s.says("Rings the next pull.", due -> {
            UnheardBells x = Scenes.sixteenPulls();
            for (int left = 15; left >= 0; left--) {
                x.ring();
                due.is("those that wait", x.account(1), left);
                due.is("the hour", x.account(2), 18 - left);
            }
        });
        s.says("Returns 1 if it is answered, 0 if it is missed, 2 if it is a double", due -> {
            UnheardBells x = Due.bells(0);
            x.pull(0, 0, 1);
            x.pull(0, 0, 1);
            x.pull(0, 1, 1);
            due.is("an answer", x.ring(), 1);
            due.is("a double", x.ring(), 2);
            due.is("a missed one", x.ring(), 0);
        });
        s.says("REFUSED for the reason 3", due -> {
            Scenes.refused(due, "ring() without ropes", UnheardBells::new, x -> x.ring(), 3, 0);
            Scenes.refused(due, "ring() after one that was the last", () -> {
                UnheardBells x = Scenes.busy();
                x.hour();
                x.hour();
                return x;
            }, x -> x.ring(), 3, 9);
        });
    }

    private static void hour(Sentences s) {
        s.in("Promise 10");
        s.says("Rings all pulls of the hour of the next one.", due -> {
            UnheardBells x = Due.bells(0);
            for (int pull = 0; pull < 15; pull++) {
                x.pull(0, 23, 9);
            }
            x.pull(0, 22, 9);
            x.hour();
            due.is("one was rung", x.account(1), 15);
            due.is("the hour", x.account(2), 22);
            x.hour();
            due.is("all were rung", x.account(1), 0);
            due.is("the doubles", x.account(7), 14);
            due.is("the hour", x.account(2), 23);
        });
        s.says("Returns how many are answered", due -> {
            UnheardBells x = Scenes.twelveRopes();
            for (int rope = 0; rope < 12; rope++) {
                x.pull(rope, 5, 1);
            }
            x.pull(0, 5, 1);
            x.pull(0, 6, 1);
            due.is("all ropes", x.hour(), 12);
            due.is("none", x.hour(), 0);
            due.is("a missed one", x.account(6), 1);
        });
        s.says("REFUSED for the reason 3", due -> {
            Scenes.refused(due, "hour() without ropes", UnheardBells::new, x -> x.hour(), 3, 0);
            Scenes.refused(due, "hour() after the last one", () -> {
                UnheardBells x = Scenes.busy();
                x.hour();
                x.ring();
                return x;
            }, x -> x.hour(), 3, 9);
        });
    }

    private static void end(Sentences s) {
        s.in("Promise 11");
        s.says("Ends the day.", due -> {
            UnheardBells x = Scenes.busy();
            x.end();
            due.is("the day", x.account(3), 2);
            due.is("the hour", x.account(2), 0);
            due.is("those that wait", x.account(1), 0);
            for (int hour = 0; hour < 24; hour++) {
                due.is("answered(" + hour + ")", x.answered(hour), 0);
            }
            due.is("what is remembered", x.account(10), 3);
        });
        s.says("Returns how many pulls are missed by that.", due -> {
            due.is("without ropes", new UnheardBells().end(), 0);
            due.is("none", Due.bells(0).end(), 0);
            due.is("four, and none of those before", Scenes.busy().end(), 4);
            due.is("sixteen", Scenes.sixteenPulls().end(), 16);
        });
    }

    private static void waiting(Sentences s) {
        s.in("Promise 12");
        s.says("Returns a number of a pull that waits.", due -> {
            UnheardBells x = Scenes.busy();
            due.is("the rope of the last", x.waiting(3, 0), 2);
            x.ring();
            due.is("the rope of the last then", x.waiting(2, 0), 2);
        });
        s.says("its place in the order, from 0", due -> {
            UnheardBells x = Scenes.sixteenPulls();
            for (int place = 0; place < 16; place++) {
                due.is("the hour at " + place, x.waiting(place, 1), 3 + place);
            }
        });
        s.says("0 for its rope, 1 for its hour, 2 for its strength", due -> {
            int[] wants = {2, 4, 5};
            for (int what = 0; what < 3; what++) {
                due.is("waiting(2, " + what + ")", Scenes.busy().waiting(2, what), wants[what]);
            }
        });
        s.says("NONE if there is no such place", due -> {
            for (int place : new int[] {Integer.MIN_VALUE, -1, 4, 15, 16, Integer.MAX_VALUE}) {
                Scenes.code(due, "waiting(" + place + ", 0)", Scenes::busy, x -> x.waiting(place, 0), Due.NONE);
            }
            due.is("waiting(0, 0) when none waits", Due.bells(0).waiting(0, 0), Due.NONE);
            due.is("waiting(16, 0) when 16 wait", Scenes.sixteenPulls().waiting(16, 0), Due.NONE);
        });
        s.says("BAD if what is not from 0 to 2", due -> {
            for (int what : new int[] {Integer.MIN_VALUE, -1, 3, Integer.MAX_VALUE}) {
                Scenes.code(due, "waiting(0, " + what + ")", Scenes::busy, x -> x.waiting(0, what), Due.BAD);
            }
        });
    }

    private static void would(Sentences s) {
        s.in("Promise 13");
        s.says("would be answered now, if none was answered in this hour", due -> {
            UnheardBells x = Due.bells(0);
            Due.pullAndRing(x, 0, 5, 9);
            due.is("one was answered in it", x.would(0, 2), 1);
            due.is("though it is a double", Due.pullAndRing(x, 0, 5, 2), 2);
            Scenes.leavesAll(due, "would(0, 9)", Scenes::busy, y -> y.would(0, 9));
        });
        s.says("Returns 1 if it would, 0 otherwise", due -> {
            for (int rust = 0; rust <= 9; rust++) {
                for (int strength = 1; strength <= 9; strength++) {
                    due.is("the strength " + strength + " with the rust " + rust,
                        Scenes.rusty(rust).would(0, strength), strength > rust ? 1 : 0);
                }
            }
            due.is("with the sensor off", Scenes.busy().would(1, 9), 0);
        });
        s.says("NONE if there is no such rope", due -> {
            for (int rope : Scenes.NO_ROPE_OF_THREE) {
                Scenes.code(due, "would(" + rope + ", 9)", Scenes::busy, x -> x.would(rope, 9), Due.NONE);
            }
            due.is("would(0, 1) without ropes", new UnheardBells().would(0, 1), Due.NONE);
        });
        s.says("BAD if the strength is out of range", due -> {
            for (int strength : Scenes.NO_STRENGTH) {
                Scenes.code(due, "would(0, " + strength + ")", Scenes::busy, x -> x.would(0, strength), Due.BAD);
                due.is("with the sensor off", Scenes.busy().would(1, strength), Due.BAD);
            }
        });
    }

    private static void forecast(Sentences s) {
        s.in("Promise 14");
        s.says("would be answered if all were rung: one after the other", due -> {
            UnheardBells x = Due.bells(0, 1);
            x.pull(0, 1, 9);
            x.pull(0, 2, 1);
            x.pull(0, 3, 2);
            x.pull(0, 3, 1);
            x.pull(1, 3, 1);
            due.is("rust that comes with each answer", x.forecast(), 3);
            x.pull(0, 3, 9);
            due.is("a double", x.forecast(), 3);
            Scenes.leavesAll(due, "forecast()", Scenes::busy, y -> y.forecast());
        });
        s.says("Returns how many.", due -> {
            due.is("without ropes", new UnheardBells().forecast(), 0);
            due.is("when none waits", Due.bells(0).forecast(), 0);
            due.is("of 16 up to the rust 9", Scenes.sixteenPulls().forecast(), 9);
            due.is("of a busy one", Scenes.busy().forecast(), 3);
            due.is("with the sensor off", sensorOff().forecast(), 0);
        });
    }

    private static void forecastAgain(Sentences s) {
        s.in("Promise 15");
        s.says("Returns the same by a second way: rope by rope.", due -> {
            UnheardBells x = Scenes.twelveRopes();
            for (int pull = 0; pull < 16; pull++) {
                x.pull(pull * 5 % 12, pull * 7 % 3, 1 + pull % 3);
                due.is("forecastAgain()", x.forecastAgain(), x.forecast());
            }
            for (int ring = 0; ring < 16; ring++) {
                x.ring();
                due.is("forecastAgain()", x.forecastAgain(), x.forecast());
            }
            Scenes.leavesAll(due, "forecastAgain()", Scenes::busy, y -> y.forecastAgain());
        });
        s.says("Returns how many.", due -> {
            due.is("without ropes", new UnheardBells().forecastAgain(), 0);
            due.is("when none waits", Due.bells(0).forecastAgain(), 0);
            due.is("of 16 up to the rust 9", Scenes.sixteenPulls().forecastAgain(), 9);
            due.is("of a busy one", Scenes.busy().forecastAgain(), 3);
            due.is("with the sensor off", sensorOff().forecastAgain(), 0);
            UnheardBells x = Scenes.busy();
            x.hour();
            x.pull(0, 4, 9);
            due.is("with a double of this hour", x.forecastAgain(), 1);
            for (int hour : new int[] {0, 23}) {
                x = Due.bells(0);
                Due.pullAndRing(x, 0, hour, 1);
                x.pull(0, hour, 9);
                due.is("forecast() of a double of the hour " + hour, x.forecast(), 0);
                due.is("forecastAgain() of a double of the hour " + hour, x.forecastAgain(), 0);
            }
        });
    }

    private static UnheardBells sensorOff() {
        UnheardBells x = Scenes.sixteenPulls();
        x.sensor(0, 0);
        return x;
    }
}
