import java.util.function.ToIntFunction;

/** The sentences of the promises 16 to 23: answers, guesses, and the orders of ropes and parishes. */
final class AnswerSentences {
    private AnswerSentences() {
    }

    static void all(Sentences s) {
        answerOf(s);
        answered(s);
        s.in("Promise 18");
        s.says("Returns the parish that the machine guesses for an hour of this day: parish by parish.", due -> {
            guessed(due, UnheardBells::guess);
            Scenes.leavesAll(due, "guess(2)", Scenes::busy, x -> x.guess(2));
        });
        guessCodes(s, UnheardBells::guess);
        s.in("Promise 19");
        s.says("Returns the same by a second way: rope by rope, by shares that are held against each other.", due -> {
            guessed(due, UnheardBells::guessAgain);
            Scenes.leavesAll(due, "guessAgain(2)", Scenes::busy, x -> x.guessAgain(2));
        });
        guessCodes(s, UnheardBells::guessAgain);
        parishOf(s);
        busiest(s);
        rustiest(s);
        ranked(s);
    }

    private static void answerOf(Sentences s) {
        s.in("Promise 16");
        s.says("Returns a number of an answer that is remembered.", due -> {
            UnheardBells x = Scenes.busy();
            due.is("the answers of both days", x.answerOf(2, 2), 0);
            x.undo();
            due.is("the hour of the latest then", x.answerOf(0, 1), 2);
        });
        s.says("its place, the latest one first, from 0", due -> {
            UnheardBells x = Scenes.answers(36);
            for (int answer = 0; answer < 20; answer++) {
                due.is("the hour at " + answer, x.answerOf(answer, 1), (35 - answer) % 24);
                due.is("the day at " + answer, x.answerOf(answer, 2), 35 - answer < 24 ? 0 : 1);
                due.is("the rope at " + answer, x.answerOf(answer, 0), (35 - answer) % 4);
            }
        });
        s.says("0 for its rope, 1 for its hour, 2 for its day, 3 for its strength", due -> {
            int[] wants = {2, 7, 0, 3};
            for (int what = 0; what < 4; what++) {
                due.is("answerOf(2, " + what + ")", Scenes.busy().answerOf(2, what), wants[what]);
            }
        });
        s.says("NONE if there is no such answer", due -> {
            for (int answer : new int[] {Integer.MIN_VALUE, -1, 3, 19, 20, Integer.MAX_VALUE}) {
                Scenes.code(due, "answerOf(" + answer + ", 0)", Scenes::busy, x -> x.answerOf(answer, 0), Due.NONE);
            }
            due.is("the place 0 of none", Due.bells(0).answerOf(0, 0), Due.NONE);
            due.is("the place 19 of 19", Scenes.answers(19).answerOf(19, 0), Due.NONE);
            due.is("the place 20 of 20", Scenes.answers(20).answerOf(20, 0), Due.NONE);
            due.is("the place 20 of 36", Scenes.answers(36).answerOf(20, 0), Due.NONE);
        });
        s.says("BAD if what is not from 0 to 3", due -> {
            for (int what : new int[] {Integer.MIN_VALUE, -1, 4, Integer.MAX_VALUE}) {
                Scenes.code(due, "answerOf(0, " + what + ")", Scenes::busy, x -> x.answerOf(0, what), Due.BAD);
            }
        });
    }

    private static void answered(Sentences s) {
        s.in("Promise 17");
        s.says("Returns the ropes of which a pull was answered in an hour of this day.", due -> {
            UnheardBells x = Scenes.busy();
            due.is("an hour of the day before", x.answered(7), 0);
            due.is("an hour of this day", x.answered(2), 1);
            x.pull(1, 4, 9);
            x.hour();
            due.is("missed ones are not among them", x.answered(4), 5);
        });
        s.says("Returns their set, bit k for the rope k", due -> {
            UnheardBells x = Scenes.twelveRopes();
            for (int rope = 0; rope < 12; rope++) {
                Due.pullAndRing(x, rope, rope, 1);
                due.is("answered(" + rope + ")", x.answered(rope), 1 << rope);
            }
            for (int rope = 0; rope < 12; rope++) {
                Due.pullAndRing(x, rope, 23, 9);
            }
            due.is("of all ropes", x.answered(23), 4095);
        });
        s.says("BAD if there is no such hour", due -> {
            for (int hour : Scenes.NO_HOUR) {
                Scenes.code(due, "answered(" + hour + ")", Scenes::busy, x -> x.answered(hour), Due.BAD);
            }
            due.is("answered(0)", new UnheardBells().answered(0), 0);
            due.is("answered(23)", new UnheardBells().answered(23), 0);
        });
    }

    private static void guessed(Due due, Guess guess) {
        int[][] rings = {{0}, {1}, {1, 3}, {0, 3, 4}, {1, 2, 3, 4, 5}, {6, 7, 8}, {0, 1, 2, 3, 4, 5, 6, 7, 8, 9}, {3, 6}};
        int[] wants = {0, 1, 1, 0, 2, 3, 3, 2};
        for (int ring = 0; ring < rings.length; ring++) {
            UnheardBells x = Due.bells(0, 1, 1, 2, 2, 2, 3, 3, 3, 3);
            for (int rope : rings[ring]) {
                Due.pullAndRing(x, rope, 23, 1);
            }
            due.is("the guess " + ring, guess.of(x, 23), wants[ring]);
        }
    }

    private interface Guess {
        int of(UnheardBells x, int hour);
    }

    private static void guessCodes(Sentences s, Guess guess) {
        s.says("Returns the parish", due -> {
            for (int parish = 0; parish <= 3; parish++) {
                UnheardBells x = Due.bells(parish);
                Due.pullAndRing(x, 0, 0, 1);
                due.is("the parish", guess.of(x, 0), parish);
            }
        });
        s.says("BAD if there is no such hour", due -> {
            for (int hour : Scenes.NO_HOUR) {
                Scenes.code(due, "a guess of " + hour, Scenes::busy, x -> guess.of(x, hour), Due.BAD);
            }
            due.is("without ropes", guess.of(new UnheardBells(), 24), Due.BAD);
        });
        s.says("NOTHING if nothing was answered in it", due -> {
            for (int hour : new int[] {0, 1, 4, 7, 9, 23}) {
                ToIntFunction<UnheardBells> call = x -> guess.of(x, hour);
                Scenes.code(due, "a guess of " + hour, Scenes::busy, call, Due.NOTHING);
            }
            due.is("without ropes", guess.of(new UnheardBells(), 0), Due.NOTHING);
            UnheardBells x = Due.bells(0);
            x.sensor(0, 0);
            Due.pullAndRing(x, 0, 0, 9);
            due.is("with a missed one in it", guess.of(x, 0), Due.NOTHING);
        });
    }

    private static void parishOf(Sentences s) {
        s.in("Promise 20");
        s.says("Returns a number of a parish.", due -> {
            for (int what = 0; what <= 4; what++) {
                due.is("parishOf(0, " + what + ") without ropes", new UnheardBells().parishOf(0, what), 0);
                due.is("parishOf(3, " + what + ") without ropes", Scenes.busy().parishOf(3, what), 0);
            }
        });
        s.says("0 for its ropes, 1 for the answers of these so far, 2 for their rust together, "
            + "3 for the hours of this day for which the machine guesses it, 4 for the pulls of its ropes that wait", due -> {
                int[][] wants = {{1, 2, 2, 2, 2}, {1, 0, 0, 0, 0}, {1, 1, 1, 0, 2}};
                for (int parish = 0; parish < 3; parish++) {
                    for (int what = 0; what <= 4; what++) {
                        due.is("parishOf(" + parish + ", " + what + ")", Scenes.busy().parishOf(parish, what),
                            wants[parish][what]);
                    }
                }
                UnheardBells x = Scenes.busy();
                x.move(0, 2);
                int[] together = {2, 3, 3, 2, 4};
                for (int what = 0; what <= 4; what++) {
                    due.is("parishOf(2, " + what + ") of two", x.parishOf(2, what), together[what]);
                }
                UnheardBells day = Scenes.answers(24);
                due.is("the hours of a full day", day.parishOf(0, 3) + day.parishOf(3, 3), 12);
            });
        s.says("NONE if there is no such parish", due -> {
            for (int parish : Scenes.NO_PARISH) {
                for (int what = 0; what <= 4; what++) {
                    due.is("parishOf(" + parish + ", " + what + ")", Scenes.busy().parishOf(parish, what), Due.NONE);
                }
                Scenes.code(due, "parishOf(" + parish + ", 0)", Scenes::busy, x -> x.parishOf(parish, 0), Due.NONE);
            }
        });
        s.says("BAD if what is not from 0 to 4", due -> {
            for (int what : new int[] {Integer.MIN_VALUE, -1, 5, Integer.MAX_VALUE}) {
                Scenes.code(due, "parishOf(0, " + what + ")", Scenes::busy, x -> x.parishOf(0, what), Due.BAD);
            }
        });
    }

    private static void busiest(Sentences s) {
        s.in("Promise 21");
        s.says("the hour of this day in which the most ropes were answered", due -> {
            UnheardBells x = Due.bells(0, 0, 0);
            ringAt(x, 3, 0);
            ringAt(x, 5, 1, 2);
            x.pull(0, 5, 1);
            ringAt(x, 6, 0);
            due.is("two ropes", x.busiest(), 5);
            for (int pull = 0; pull < 5; pull++) {
                Due.pullAndRing(x, 1, 6, 9);
            }
            due.is("doubles are no more ropes", x.busiest(), 5);
        });
        s.says("of several the earliest", due -> {
            UnheardBells x = Due.bells(0, 0);
            ringAt(x, 0, 1);
            ringAt(x, 1, 0);
            due.is("one in each", x.busiest(), 0);
            ringAt(x, 22, 0, 1);
            ringAt(x, 23, 0, 1);
            due.is("two in each", x.busiest(), 22);
        });
        s.says("Returns the hour", due -> {
            for (int hour = 0; hour < 24; hour++) {
                UnheardBells x = Due.bells(0);
                ringAt(x, hour, 0);
                due.is("busiest()", x.busiest(), hour);
            }
        });
        s.says("NOTHING if none was answered", due -> {
            Scenes.code(due, "busiest() without ropes", UnheardBells::new, UnheardBells::busiest, Due.NOTHING);
            Scenes.code(due, "busiest() after a missed one", () -> {
                UnheardBells x = Scenes.rusty(9);
                x.end();
                Due.pullAndRing(x, 0, 5, 9);
                return x;
            }, UnheardBells::busiest, Due.NOTHING);
        });
    }

    private static void rustiest(Sentences s) {
        s.in("Promise 22");
        s.says("Returns a rope by its rust: the most first", due -> {
            UnheardBells x = Due.bells(0, 0, 0);
            ringAt(x, 0, 1, 2);
            ringAt(x, 1, 2);
            inOrder(due, x, 2, 1, 0);
            Scenes.leavesAll(due, "rustiest(1)", Scenes::busy, y -> y.rustiest(1));
        });
        s.says("of several the one with fewer answers so far", due -> {
            UnheardBells x = Due.bells(0, 0, 0);
            ringAt(x, 0, 0, 1, 2);
            ringAt(x, 1, 0, 1);
            x.oil(0, 1);
            x.oil(1, 1);
            ringAt(x, 2, 0);
            x.oil(0, 1);
            inOrder(due, x, 2, 1, 0);
        });
        s.says("then the lowest", due -> {
            UnheardBells x = Scenes.twelveRopes();
            inOrder(due, x, 0, 1, 2, 3, 4, 5, 6, 7, 8, 9, 10, 11);
            for (int rope = 11; rope >= 6; rope--) {
                ringAt(x, 0, rope);
            }
            inOrder(due, x, 6, 7, 8, 9, 10, 11, 0, 1, 2, 3, 4, 5);
        });
        s.says("the place, from 0", due -> {
            UnheardBells x = Scenes.busy();
            inOrder(due, x, 0, 2, 1);
            due.is("rustiest(-1)", x.rustiest(-1), Due.NONE);
        });
        s.says("Returns the rope", due -> due.is("rustiest(0) of one", Due.bells(3).rustiest(0), 0));
        s.says("NONE if there is no such place", due -> {
            for (int place : Scenes.NO_ROPE_OF_THREE) {
                Scenes.code(due, "rustiest(" + place + ")", Scenes::busy, x -> x.rustiest(place), Due.NONE);
            }
            due.is("rustiest(0) without ropes", new UnheardBells().rustiest(0), Due.NONE);
            due.is("rustiest(12) of twelve", Scenes.twelveRopes().rustiest(12), Due.NONE);
        });
    }

    private static void ranked(Sentences s) {
        s.in("Promise 23");
        s.says("Returns a parish by the answers of its ropes so far: the most first", due -> {
            UnheardBells x = Due.bells(0, 0, 0, 1, 2, 3);
            ringAt(x, 0, 5, 4, 3);
            ringAt(x, 1, 5, 4);
            ringAt(x, 2, 5);
            parishesInOrder(due, x, 3, 2, 1, 0);
            ringAt(x, 2, 0, 1, 2);
            ringAt(x, 3, 0);
            parishesInOrder(due, x, 0, 3, 2, 1);
            Scenes.leavesAll(due, "ranked(1)", Scenes::busy, y -> y.ranked(1));
        });
        s.says("of several the one with more ropes", due -> {
            UnheardBells x = Due.bells(0, 1, 1, 2, 2, 2, 3, 3, 3, 3);
            parishesInOrder(due, x, 3, 2, 1, 0);
            ringAt(x, 0, 0, 1, 3, 6);
            parishesInOrder(due, x, 3, 2, 1, 0);
        });
        s.says("then the lowest", due -> {
            parishesInOrder(due, new UnheardBells(), 0, 1, 2, 3);
            parishesInOrder(due, Scenes.twelveRopes(), 0, 1, 2, 3);
            parishesInOrder(due, Due.bells(3, 1), 1, 3, 0, 2);
        });
        s.says("the place, from 0", due -> {
            UnheardBells x = Scenes.busy();
            parishesInOrder(due, x, 0, 2, 1, 3);
            due.is("ranked(-1)", x.ranked(-1), Due.NONE);
        });
        s.says("Returns the parish", due -> due.is("ranked(0)", Due.bells(2).ranked(0), 2));
        s.says("NONE if there is no such place", due -> {
            for (int place : Scenes.NO_PARISH) {
                Scenes.code(due, "ranked(" + place + ")", Scenes::busy, x -> x.ranked(place), Due.NONE);
            }
        });
    }

    private static void ringAt(UnheardBells x, int hour, int... ropes) {
        for (int rope : ropes) {
            Due.pullAndRing(x, rope, hour, 9);
        }
    }

    private static void inOrder(Due due, UnheardBells x, int... wants) {
        for (int place = 0; place < wants.length; place++) {
            due.is("rustiest(" + place + ")", x.rustiest(place), wants[place]);
        }
    }

    private static void parishesInOrder(Due due, UnheardBells x, int... wants) {
        for (int place = 0; place < wants.length; place++) {
            due.is("ranked(" + place + ")", x.ranked(place), wants[place]);
        }
    }
}
