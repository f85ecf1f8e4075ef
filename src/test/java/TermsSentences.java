import java.util.List;
import java.util.function.ToIntFunction;

/** The sentences of the section Terms, but those of texts, which stand in TextSentences. */
final class TermsSentences {
    private static final List<ToIntFunction<UnheardBells>> EACH_CHANGE = List.of(x -> x.rope(0), x -> x.move(0, 3),
        x -> x.sensor(0, 0), x -> x.pull(0, 1, 1), x -> x.cancel(0), UnheardBells::ring, UnheardBells::hour,
        x -> x.oil(0, 1), UnheardBells::end, UnheardBells::run);

    private TermsSentences() {
    }

    static void all(Sentences s) {
        s.in("What it is");
        manyCalls(s);
        s.in("Terms");
        numbers(s);
        ropes(s);
        pulls(s);
        order(s);
        rings(s);
        days(s);
        answers(s);
        guesses(s);
        reasons(s);
        changes(s);
        codes(s);
        hoursAndRopesInDoubt(s);
        countsInDoubt(s);
        constants(s);
    }

    private static void manyCalls(Sentences s) {
        s.says("An object is used for at most 512 calls after it has been made", due -> {
            UnheardBells x = new UnheardBells();
            for (int call = 1; call < 512; call++) {
                x.end();
            }
            due.is("the day, by the call 512", x.account(3), 511);
            UnheardBells y = Due.bells(0);
            for (int day = 0; day < 127; day++) {
                y.pull(0, 0, 1);
                y.ring();
                y.oil(0, 1);
                y.end();
            }
            due.is("the answers", y.account(5), 127);
            due.is("the latest day", y.answerOf(0, 2), 126);
            due.is("isBalanced(), the call 512", y.isBalanced(), 1);
        });
    }

    private static void numbers(Sentences s) {
        s.says("An answer has its rope.", due -> {
            UnheardBells x = Due.bells(3, 3);
            Due.pullAndRing(x, 1, 0, 1);
            due.is("the rope of an answer", x.answerOf(0, 0), 1);
        });
        s.says("All numbers are whole, but two, and are rounded down if nothing else is said.", due -> {
            UnheardBells x = Due.bells(0, 0, 0);
            Due.pullAndRing(x, 0, 0, 9);
            Due.pullAndRing(x, 0, 1, 1);
            Due.pullAndRing(x, 0, 1, 1);
            due.same("meanRust()", x.meanRust(), 1.0 / 3.0);
            due.same("answerShare()", x.answerShare(), 1.0f / 3.0f);
        });
    }

    private static void ropes(Sentences s) {
        s.says("At most 12 ropes are there", due -> {
            UnheardBells x = Due.bells(0, 1, 2, 3, 0, 1, 2, 3, 0, 1, 2);
            due.is("the rope 12 by its count", x.rope(3), 11);
            due.is("one more", x.rope(3), Due.REFUSED);
            due.is("the ropes", x.account(0), 12);
            due.is("a rope behind the last", x.ropeOf(12, 0), Due.NONE);
            x.undo();
            due.is("a rope after an undo", x.rope(2), 11);
            due.is("one more after it", Due.runText(x, "r1"), Due.REFUSED);
        });
        s.says("numbered from 0", due -> {
            UnheardBells x = new UnheardBells();
            due.is("no rope yet", x.ropeOf(0, 0), Due.NONE);
            due.is("the first", x.rope(3), 0);
            due.is("its parish", x.ropeOf(0, 0), 3);
            due.is("no rope below it", x.ropeOf(-1, 0), Due.NONE);
            due.is("no rope above it", x.ropeOf(1, 0), Due.NONE);
        });
        s.says("each of a parish from 0 to 3", due -> {
            for (int parish = 0; parish <= 3; parish++) {
                UnheardBells x = new UnheardBells();
                due.is("rope(" + parish + ")", x.rope(parish), 0);
                due.is("its parish", x.ropeOf(0, 0), parish);
            }
            due.is("rope(4)", new UnheardBells().rope(4), Due.BAD);
            due.is("rope(-1)", new UnheardBells().rope(-1), Due.BAD);
        });
        s.says("with a sensor that is on, as at first, or off", due -> {
            UnheardBells x = Due.bells(0);
            due.is("at first", x.ropeOf(0, 1), 1);
            x.sensor(0, 0);
            due.is("off", x.ropeOf(0, 1), 0);
            x.rope(0);
            due.is("that of a rope that comes then", x.ropeOf(1, 1), 1);
            x.sensor(1, 0);
            x.undo();
            x.undo();
            x.rope(0);
            due.is("that of a rope that comes in place of one undone", x.ropeOf(1, 1), 1);
        });
        s.says("with rust from 0 to 9, at first 0", due -> {
            UnheardBells x = Due.bells(0);
            due.is("at first", x.ropeOf(0, 2), 0);
            x.end();
            due.is("after a day without answers", x.ropeOf(0, 2), 0);
            for (int hour = 0; hour < 24; hour++) {
                Due.pullAndRing(x, 0, hour, 9);
                due.is("after hour " + hour, x.ropeOf(0, 2), Math.min(9, hour + 1));
            }
            x.rope(0);
            due.is("that of a rope that comes then", x.ropeOf(1, 2), 0);
        });
    }

    private static void pulls(Sentences s) {
        s.says("at an hour from 0 to 23 of the day", due -> {
            UnheardBells x = Due.bells(0);
            due.is("the hour 23", x.pull(0, 23, 1), 0);
            due.is("the hour 0", x.pull(0, 0, 1), 0);
            due.is("the hour 24", x.pull(0, 24, 1), Due.BAD);
            due.is("the hour -1", x.pull(0, -1, 1), Due.BAD);
            due.is("the first hour", x.waiting(0, 1), 0);
            due.is("the last hour", x.waiting(1, 1), 23);
        });
        s.says("with a strength from 1 to 9", due -> {
            UnheardBells x = Due.bells(0);
            due.is("the strength 1", x.pull(0, 0, 1), 0);
            due.is("the strength 9", x.pull(0, 0, 9), 0);
            due.is("the strength 0", x.pull(0, 0, 0), Due.BAD);
            due.is("the strength 10", x.pull(0, 0, 10), Due.BAD);
            due.is("the strongest", x.waiting(0, 2), 9);
            due.is("the weakest", x.waiting(1, 2), 1);
        });
        s.says("At most 16 pulls wait.", due -> {
            UnheardBells x = Scenes.sixteenPulls();
            due.is("those that wait", x.account(1), 16);
            due.is("one more", x.pull(0, 23, 1), Due.REFUSED);
            due.is("one more as an order", Due.runText(x, "p0@23*1"), Due.REFUSED);
            due.is("those that wait then", x.account(1), 16);
            x.ring();
            due.is("one more after a ring", x.pull(0, 23, 1), 15);
            due.is("and one more", x.pull(0, 23, 1), Due.REFUSED);
            x.cancel(0);
            due.is("one after all were taken away", x.pull(0, 23, 1), 0);
        });
        s.says("It is an hour of the day, at first 0", due -> {
            UnheardBells x = new UnheardBells();
            due.is("the hour", x.account(2), 0);
            x.rope(0);
            due.is("a pull for it", x.pull(0, 0, 1), 0);
        });
        s.says("no pull can be for an earlier one.", due -> {
            UnheardBells x = Due.bells(0);
            Due.pullAndRing(x, 0, 23, 1);
            due.is("the hour just before", x.pull(0, 22, 1), Due.REFUSED);
            due.is("the hour 0", x.pull(0, 0, 1), Due.REFUSED);
            due.is("the hour itself", x.pull(0, 23, 1), 0);
            x.undo();
            x.end();
            due.is("the hour 0 of the next day", x.pull(0, 0, 1), 0);
        });
    }

    private static void order(Sentences s) {
        s.says("the earliest hour first", due -> {
            UnheardBells x = Due.bells(0, 0);
            x.pull(0, 10, 9);
            due.is("a later one", x.pull(0, 11, 9), 1);
            due.is("an earlier one, weaker and of a higher rope", x.pull(1, 9, 1), 0);
            x.ring();
            due.is("what was rung", x.ropeOf(1, 3), 1);
        });
        s.says("of several the strongest", due -> {
            UnheardBells x = Due.bells(0, 0);
            x.pull(0, 10, 5);
            due.is("a weaker one", x.pull(0, 10, 4), 1);
            due.is("a stronger one of a higher rope", x.pull(1, 10, 6), 0);
            x.ring();
            due.is("what was rung", x.answerOf(0, 3), 6);
        });
        s.says("then that of the lowest rope", due -> {
            UnheardBells x = Due.bells(3, 2, 1);
            x.pull(1, 10, 5);
            due.is("that of a higher rope", x.pull(2, 10, 5), 1);
            due.is("that of a lower rope", x.pull(0, 10, 5), 0);
            x.ring();
            due.is("what was rung", x.answerOf(0, 0), 0);
        });
        s.says("then the one that came first", due -> {
            UnheardBells x = Due.bells(0, 0);
            x.pull(1, 10, 5);
            for (int number = 0; number < 15; number++) {
                due.is("one that is alike in all", x.pull(0, 10, 5), number);
            }
        });
    }

    private static void rings(Sentences s) {
        s.says("When a pull is rung, it becomes its hour.", due -> {
            UnheardBells x = Due.bells(0);
            due.is("an answer", Due.pullAndRing(x, 0, 4, 1), 1);
            due.is("the hour", x.account(2), 4);
            due.is("a missed one", Due.pullAndRing(x, 0, 6, 1), 0);
            due.is("the hour", x.account(2), 6);
            due.is("the last hour", Due.pullAndRing(x, 0, 23, 9), 1);
            due.is("the hour", x.account(2), 23);
            due.is("a double", Due.pullAndRing(x, 0, 23, 9), 2);
            due.is("the hour", x.account(2), 23);
        });
        s.says("If a pull of the same rope was answered in this hour of this day, it is a double", due -> {
            UnheardBells x = Due.bells(0, 0);
            due.is("the first", Due.pullAndRing(x, 0, 5, 9), 1);
            due.is("the same rope", Due.pullAndRing(x, 0, 5, 9), 2);
            due.is("another rope", Due.pullAndRing(x, 1, 5, 9), 1);
            due.is("another hour", Due.pullAndRing(x, 0, 6, 9), 1);
            x.sensor(0, 0);
            due.is("the same rope with its sensor off", Due.pullAndRing(x, 0, 6, 9), 2);
            due.is("the same rope, not above its rust", Due.pullAndRing(x, 0, 6, 1), 2);
            x.sensor(0, 1);
            x.end();
            due.is("another day", Due.pullAndRing(x, 0, 5, 9), 1);
        });
        s.says("and nothing else happens", due -> {
            UnheardBells x = Due.bells(0, 1);
            Due.pullAndRing(x, 0, 5, 3);
            due.is("a double", Due.pullAndRing(x, 0, 5, 9), 2);
            due.is("the rust", x.ropeOf(0, 2), 1);
            due.is("the answers", x.account(5) + x.ropeOf(0, 3), 2);
            due.is("the missed", x.account(6) + x.ropeOf(0, 4), 0);
            due.is("the remembered", x.account(10), 1);
            due.is("the strength remembered", x.answerOf(0, 3), 3);
            due.is("the ropes answered", x.answered(5), 1);
        });
        s.says("Otherwise it is answered if the sensor is on, and the strength is above the rust", due -> {
            for (int rust = 0; rust <= 8; rust++) {
                UnheardBells x = Scenes.rusty(rust);
                due.is("just above the rust " + rust, Due.pullAndRing(x, 0, 20, rust + 1), 1);
            }
        });
        s.says("if not, it is missed.", due -> {
            for (int rust = 1; rust <= 9; rust++) {
                UnheardBells x = Scenes.rusty(rust);
                due.is("just the rust " + rust, Due.pullAndRing(x, 0, 20, rust), 0);
            }
            UnheardBells x = Due.bells(0);
            x.sensor(0, 0);
            due.is("with the sensor off", Due.pullAndRing(x, 0, 20, 9), 0);
            due.is("the missed", x.account(6), 1);
            due.is("the missed of the rope", x.ropeOf(0, 4), 1);
            due.is("its rust", x.ropeOf(0, 2), 0);
        });
        s.says("By an answer the rust of the rope becomes 1 more, up to 9.", due -> {
            UnheardBells x = Due.bells(0, 0);
            for (int hour = 0; hour < 9; hour++) {
                due.is("an answer", Due.pullAndRing(x, 0, hour, 9), 1);
                due.is("the rust", x.ropeOf(0, 2), hour + 1);
            }
            due.is("one more", Due.pullAndRing(x, 0, 9, 9), 0);
            due.is("the rust", x.ropeOf(0, 2), 9);
            due.is("the rust of another", x.ropeOf(1, 2), 0);
        });
    }

    private static void days(Sentences s) {
        s.says("When the day ends, all pulls that wait are missed", due -> {
            UnheardBells x = Scenes.sixteenPulls();
            due.is("end() of 16", x.end(), 16);
            due.is("those that wait", x.account(1), 0);
            due.is("the missed", x.account(6), 16);
            due.is("end() of none", x.end(), 0);
            due.is("the missed", x.account(6), 16);
        });
        s.says("it is the hour 0 of the next day", due -> {
            UnheardBells x = Due.bells(0);
            Due.pullAndRing(x, 0, 23, 1);
            x.end();
            due.is("the hour", x.account(2), 0);
            due.is("the day", x.account(3), 1);
            x.end();
            due.is("the hour", x.account(2), 0);
            due.is("the day", x.account(3), 2);
        });
        s.says("the rust of each rope of which no pull was answered on this day becomes 1 less", due -> {
            UnheardBells x = Due.bells(0, 0, 0);
            for (int hour = 0; hour < 3; hour++) {
                Due.pullAndRing(x, 0, hour, 9);
                Due.pullAndRing(x, 1, hour, 9);
                Due.pullAndRing(x, 2, hour, 9);
            }
            x.end();
            due.is("all were answered", x.account(9), 9);
            Due.pullAndRing(x, 0, 0, 9);
            Due.pullAndRing(x, 1, 23, 9);
            x.end();
            due.is("answered in the hour 0", x.ropeOf(0, 2), 4);
            due.is("answered in the hour 23", x.ropeOf(1, 2), 4);
            due.is("not answered", x.ropeOf(2, 2), 2);
            x.end();
            due.is("the day after", x.account(9), 3 + 3 + 1);
        });
        s.says("not below 0", due -> {
            UnheardBells x = Due.bells(0);
            Due.pullAndRing(x, 0, 0, 9);
            x.end();
            x.end();
            due.is("the rust", x.ropeOf(0, 2), 0);
            x.end();
            due.is("the rust a day later", x.ropeOf(0, 2), 0);
        });
        s.says("Days are numbered from 0.", due -> {
            UnheardBells x = Due.bells(0);
            due.is("the day", x.account(3), 0);
            Due.pullAndRing(x, 0, 0, 1);
            due.is("the day of an answer", x.answerOf(0, 2), 0);
        });
    }

    private static void answers(Sentences s) {
        s.says("The latest 20 answers are remembered", due -> {
            due.is("19 answers", Scenes.answers(19).account(10), 19);
            due.is("20 answers", Scenes.answers(20).account(10), 20);
            due.is("21 answers", Scenes.answers(21).account(10), 20);
            due.is("the oldest of 20", Scenes.answers(20).answerOf(19, 1), 0);
            due.is("the oldest of 21", Scenes.answers(21).answerOf(19, 1), 1);
            due.is("none behind it", Scenes.answers(21).answerOf(20, 1), Due.NONE);
        });
        s.says("the latest one first, each with its rope, hour, day and strength", due -> {
            UnheardBells x = Due.bells(0, 0);
            Due.pullAndRing(x, 0, 3, 4);
            x.end();
            Due.pullAndRing(x, 1, 2, 9);
            int[][] wants = {{1, 2, 1, 9}, {0, 3, 0, 4}};
            for (int answer = 0; answer < 2; answer++) {
                for (int what = 0; what < 4; what++) {
                    due.is("answerOf(" + answer + ", " + what + ")", x.answerOf(answer, what), wants[answer][what]);
                }
            }
        });
        s.says("Those that are older are forgotten, but still count.", due -> {
            UnheardBells x = Scenes.answers(36);
            due.is("the remembered", x.account(10), 20);
            due.is("the answers", x.account(5), 36);
            due.is("those of a rope", x.ropeOf(0, 3), 9);
            due.is("those of a parish", x.parishOf(0, 1), 9);
            due.is("the share", (long) (x.answerShare() * 100), 100);
        });
    }

    private static void guesses(Sentences s) {
        s.says("by the ropes that were answered in it", due -> {
            UnheardBells x = Due.bells(1, 2);
            Due.pullAndRing(x, 1, 5, 1);
            Due.pullAndRing(x, 0, 6, 1);
            due.is("the hour", x.guess(5), 2);
            due.is("another hour", x.guess(6), 1);
            x.end();
            due.is("another day", x.guess(5), Due.NOTHING);
        });
        s.says("the parish of which the greatest part of its ropes was", due -> {
            UnheardBells x = Due.bells(0, 0, 0, 0, 0, 3, 3);
            for (int rope = 0; rope < 2; rope++) {
                Due.pullAndRing(x, rope, 5, 1);
            }
            Due.pullAndRing(x, 5, 5, 1);
            due.is("two of five, and one of two", x.guess(5), 3);
            Due.pullAndRing(x, 2, 5, 1);
            due.is("three of five, and one of two", x.guess(5), 0);
        });
        s.says("of several that of which the most ropes were", due -> {
            UnheardBells x = Due.bells(0, 3, 3);
            for (int rope = 0; rope < 3; rope++) {
                Due.pullAndRing(x, rope, 5, 1);
            }
            due.is("one of one, and two of two", x.guess(5), 3);
            UnheardBells y = Due.bells(1, 1, 2, 2, 2, 2);
            for (int rope : new int[] {0, 2, 3}) {
                Due.pullAndRing(y, rope, 5, 1);
            }
            due.is("one of two, and two of four", y.guess(5), 2);
        });
        s.says("then the lowest", due -> {
            UnheardBells x = Due.bells(3, 2, 1, 0);
            for (int rope = 0; rope < 3; rope++) {
                Due.pullAndRing(x, rope, 5, 1);
            }
            due.is("one of one of three parishes", x.guess(5), 1);
            Due.pullAndRing(x, 3, 5, 1);
            due.is("of all four", x.guess(5), 0);
        });
        s.says("Answers that are forgotten count for this, too.", due -> {
            UnheardBells x = Scenes.answers(24);
            due.is("the hour 3 is forgotten", x.answerOf(19, 1), 4);
            for (int hour = 0; hour < 4; hour++) {
                due.is("guess(" + hour + ")", x.guess(hour), hour);
                due.is("guessAgain(" + hour + ")", x.guessAgain(hour), hour);
            }
        });
    }

    private static void reasons(Sentences s) {
        s.says("Something is refused for the first of the reasons that its method names", due ->
            Scenes.refused(due, "a pull for an hour that is past, when 16 wait", () -> {
                UnheardBells x = Due.bells(0);
                Due.pullAndRing(x, 0, 2, 9);
                for (int pull = 0; pull < 16; pull++) {
                    x.pull(0, 3, 9);
                }
                return x;
            }, x -> x.pull(0, 1, 9), 2, 2));
        s.says("1, there are 12 ropes, or 16 pulls wait: this number", due -> {
            Scenes.refused(due, "a rope too many", Scenes::twelveRopes, x -> x.rope(0), 1, 12);
            Scenes.refused(due, "a pull too many", Scenes::sixteenPulls, x -> x.pull(0, 0, 1), 1, 16);
        });
        s.says("2, the hour is past: the hour that it is", due ->
            Scenes.refused(due, "a pull for the hour before", Scenes::busy, x -> x.pull(0, 2, 9), 2, 3));
        s.says("3, nothing waits: how many pulls were rung so far", due -> {
            Scenes.refused(due, "ring() when none was rung", () -> Due.bells(0), x -> x.ring(), 3, 0);
            Scenes.refused(due, "hour() when none was rung", () -> Due.bells(0), x -> x.hour(), 3, 0);
            Scenes.refused(due, "ring() after nine", () -> Scenes.answers(9), x -> x.ring(), 3, 9);
        });
        s.says("4, it is so already: the number that was told", due -> {
            for (int parish = 0; parish <= 3; parish++) {
                int its = parish;
                Scenes.refused(due, "move to " + parish, () -> Due.bells(its), x -> x.move(0, its), 4, parish);
            }
            Scenes.refused(due, "sensor on", Scenes::busy, x -> x.sensor(0, 1), 4, 1);
            Scenes.refused(due, "sensor off", Scenes::busy, x -> x.sensor(1, 0), 4, 0);
        });
        s.says("5, there is less rust: how much", due -> {
            for (int rust = 0; rust < 9; rust++) {
                int its = rust;
                Scenes.refused(due, "one more than " + rust, () -> Scenes.rusty(its), x -> x.oil(0, its + 1), 5, rust);
            }
        });
        s.says("6, no pull of the rope waits: how many wait of others", due -> {
            Scenes.refused(due, "cancel when none waits", () -> Due.bells(0), x -> x.cancel(0), 6, 0);
            Scenes.refused(due, "cancel when four wait", Scenes::busy, x -> x.cancel(1), 6, 4);
        });
        s.says("7, an order cannot be carried out: its number, from 0.", due -> {
            for (int number = 0; number < 30; number++) {
                UnheardBells x = Due.bells(0);
                String text = "e;".repeat(number) + "n";
                due.refused(x, "the order " + number, Due.runText(x, text), 7, number);
            }
        });
    }

    private static void changes(Sentences s) {
        s.says("The changes are the successful calls of rope, move, sensor, pull, cancel, ring, hour, oil, end and run",
            due -> {
                for (int change = 0; change < EACH_CHANGE.size(); change++) {
                    UnheardBells x = Scenes.busy();
                    x.restore();
                    x.pull(0, 1, 9);
                    x.pull(0, 1, 8);
                    x.ring();
                    due.is("the changes before", x.account(12), 3);
                    due.that("the change " + change + " is successful", EACH_CHANGE.get(change).applyAsInt(x) >= 0);
                    due.is("the changes after " + change, x.account(12), 4);
                }
            });
        s.says("also those by which nothing is different", due -> {
            UnheardBells x = Due.bells(1);
            due.is("a text that turns back", Due.runText(x, "v0:2;v0:1;s0-;s0+"), 4);
            due.is("it is a change", x.account(12), 2);
            due.is("it is undone", x.undo(), 1);
            due.is("the rope is there", x.account(0), 1);
            due.is("the change before it is undone", x.undo(), 0);
            due.is("no rope is there", x.account(0), 0);
        });
        s.says("The latest 8 can be undone.", due -> {
            for (int made = 0; made <= 10; made++) {
                UnheardBells x = new UnheardBells();
                for (int change = 0; change < made; change++) {
                    x.end();
                }
                due.is("after " + made, x.account(12), Math.min(made, 8));
                for (int left = Math.min(made, 8) - 1; left >= 0; left--) {
                    due.is("undo()", x.undo(), left);
                }
                due.is("one more", x.undo(), Due.NOTHING);
                due.is("the day", x.account(3), Math.max(made - 8, 0));
            }
        });
    }

    private static void codes(Sentences s) {
        s.says("A call that returns a code leaves everything unchanged", due -> {
            Scenes.code(due, "NONE", Scenes::busy, x -> x.pull(3, 9, 9), Due.NONE);
            Scenes.code(due, "BAD", Scenes::busy, x -> x.pull(0, 24, 9), Due.BAD);
            Scenes.code(due, "FULL", () -> {
                UnheardBells x = Scenes.busy();
                Due.write(x, "e".repeat(56));
                return x;
            }, x -> x.append('e'), Due.FULL);
            Scenes.code(due, "NOTHING", () -> Scenes.answers(3), x -> x.restore(), Due.NOTHING);
        });
        s.says("except that run empties the text", due -> {
            for (String text : new String[] {"e;e", "x", "n;n;n;n;n"}) {
                UnheardBells x = Due.bells(0);
                Due.runText(x, text);
                due.is("the text after \"" + text + "\"", x.account(11), 0);
                due.is("an append then", x.append('e'), 1);
                due.is("a run then", x.run(), 1);
            }
        });
        s.says("and that reasons are kept", due -> {
            UnheardBells x = Due.bells(0);
            x.cancel(0);
            due.is("the reason", x.reason(false), 6);
            x.hour();
            due.is("the latest reason", x.reason(false), 3);
        });
        s.says("If several codes apply, the one that is listed first is returned.", due -> {
            UnheardBells x = Scenes.busy();
            due.is("NONE ahead of BAD, move", x.move(3, 4), Due.NONE);
            due.is("NONE ahead of BAD, sensor", x.sensor(3, 2), Due.NONE);
            due.is("NONE ahead of BAD, oil", x.oil(3, 0), Due.NONE);
            due.is("NONE ahead of BAD, ropeOf", x.ropeOf(3, 7), Due.NONE);
            due.is("NONE ahead of BAD, pull", x.pull(3, 24, 0), Due.NONE);
            due.is("NONE ahead of BAD, waiting", x.waiting(4, 3), Due.NONE);
            due.is("NONE ahead of BAD, would", x.would(3, 0), Due.NONE);
            due.is("NONE ahead of BAD, answerOf", x.answerOf(20, 4), Due.NONE);
            due.is("NONE ahead of BAD, parishOf", x.parishOf(4, 5), Due.NONE);
            due.is("BAD ahead of REFUSED, pull for an hour that is past", x.pull(0, 0, 10), Due.BAD);
            due.is("BAD ahead of REFUSED, rope", Scenes.twelveRopes().rope(4), Due.BAD);
            due.is("BAD ahead of REFUSED, pull when 16 wait", Scenes.sixteenPulls().pull(0, 24, 1), Due.BAD);
            UnheardBells full = new UnheardBells();
            Due.write(full, "e".repeat(60));
            due.is("BAD ahead of FULL", full.append(127), Due.BAD);
            due.is("a fault ahead of REFUSED", Due.runText(Due.bells(0), "n;x"), -2002);
        });
        s.says("The text, the line, the reason and its detail are neither undone nor saved, and stay.", due -> {
            UnheardBells x = Scenes.busy();
            x.save();
            x.append(';');
            x.tell(1);
            x.cancel(1);
            x.undo();
            x.undo();
            due.is("the text after undo", x.account(11), 5);
            due.text("the line after undo", Due.lineOf(x), "1:1#");
            due.is("the reason after undo", x.reason(false), 6);
            due.is("the detail after undo", x.reason(true), 4);
            x.restore();
            due.is("the text after restore", x.account(11), 5);
            due.text("the line after restore", Due.lineOf(x), "1:1#");
            due.is("the reason after restore", x.reason(false), 6);
            due.is("the detail after restore", x.reason(true), 4);
            x.append('e');
            due.is("run() of the whole text", x.run(), 3);
        });
    }

    private static void hoursAndRopesInDoubt(Sentences s) {
        s.says("Pulls for the hour that it is can still come, and are rung then.", due -> {
            UnheardBells x = Due.bells(0, 0);
            Due.pullAndRing(x, 0, 23, 1);
            x.pull(1, 23, 1);
            due.is("hour()", x.hour(), 1);
            due.is("answered(23)", x.answered(23), 3);
            due.is("ring() of one more", Due.pullAndRing(x, 1, 23, 1), 2);
        });
        s.says("A pull of a rope that was missed in an hour can be followed by one that is answered in the same hour.",
            due -> {
                UnheardBells x = Scenes.rusty(3);
                due.is("a weak one", Due.pullAndRing(x, 0, 20, 3), 0);
                due.is("one that is stronger", Due.pullAndRing(x, 0, 20, 4), 1);
                due.is("one more", Due.pullAndRing(x, 0, 20, 9), 2);
            });
        s.says("The parish of a rope is that which it has now, whatever it was when its pull was answered.", due -> {
            UnheardBells x = Due.bells(0, 1);
            Due.pullAndRing(x, 0, 5, 1);
            x.move(0, 2);
            due.is("guess(5)", x.guess(5), 2);
            due.is("guessAgain(5)", x.guessAgain(5), 2);
            due.is("the answers of the parish before", x.parishOf(0, 1), 0);
            due.is("the answers of the parish now", x.parishOf(2, 1), 1);
            due.is("its hours", x.parishOf(2, 3), 1);
            due.is("its rust", x.parishOf(2, 2), 1);
            due.is("the first parish", x.ranked(0), 2);
            x.tellDay();
            due.text("the line", Due.lineOf(x), "5=2");
        });
        s.says("Pulls of a rope wait, whatever its sensor and its parish.", due -> {
            UnheardBells x = Due.bells(0);
            x.sensor(0, 0);
            due.is("a pull with the sensor off", x.pull(0, 5, 9), 0);
            due.is("it waits", x.account(1), 1);
            x.sensor(0, 1);
            x.move(0, 3);
            x.sensor(0, 0);
            due.is("it waits still", x.ropeOf(0, 6), 1);
            due.is("it waits for the parish", x.parishOf(3, 4), 1);
            x.sensor(0, 1);
            due.is("ring()", x.ring(), 1);
        });
        s.says("Parts are compared as fractions, without rounding.", due -> {
            for (int whole = 1; whole < 12; whole++) {
                for (int other = 1; whole + other <= 12; other++) {
                    twoParishes(due, whole, other);
                }
            }
            UnheardBells x = Due.bells(0, 0, 0, 0, 0, 0, 0, 1, 1, 1, 1, 1);
            for (int rope : new int[] {0, 1, 2, 3, 7, 8, 9}) {
                Due.pullAndRing(x, rope, 5, 1);
            }
            due.is("four of seven, and three of five", x.guess(5), 1);
            due.is("the same again", x.guessAgain(5), 1);
            UnheardBells y = Due.bells(0, 0, 0, 0, 0, 1, 1, 1, 1, 1, 1, 1);
            for (int rope : new int[] {0, 1, 2, 5, 6, 7, 8}) {
                Due.pullAndRing(y, rope, 5, 1);
            }
            due.is("three of five, and four of seven", y.guess(5), 0);
            due.is("the same again", y.guessAgain(5), 0);
        });
    }

    /** Each number of answered ropes of a parish 1 and of a parish 2, which have so many ropes. */
    private static void twoParishes(Due due, int whole, int other) {
        for (int part = 0; part <= whole; part++) {
            for (int otherPart = 0; otherPart <= other; otherPart++) {
                UnheardBells x = new UnheardBells();
                for (int rope = 0; rope < whole + other; rope++) {
                    x.rope(rope < whole ? 1 : 2);
                    if (rope < part || rope >= whole && rope < whole + otherPart) {
                        Due.pullAndRing(x, rope, 5, 1);
                    }
                }
                int lead = part * other - otherPart * whole;
                boolean isOther = lead < 0 || lead == 0 && otherPart > part;
                int want = part + otherPart == 0 ? Due.NOTHING : isOther ? 2 : 1;
                String parts = part + " of " + whole + " and " + otherPart + " of " + other;
                due.is("guess of " + parts, x.guess(5), want);
                due.is("guessAgain of " + parts, x.guessAgain(5), want);
            }
        }
    }

    private static void countsInDoubt(Sentences s) {
        s.says("A pull that is missed as the day ends is missed for its rope, too.", due -> {
            UnheardBells x = Due.bells(0, 0);
            x.pull(1, 5, 9);
            x.pull(1, 5, 9);
            x.end();
            due.is("the missed of the rope", x.ropeOf(1, 4), 2);
            due.is("the missed of another", x.ropeOf(0, 4), 0);
            due.is("isBalanced()", x.isBalanced(), 1);
        });
        s.says("Pulls that were rung so far are those answered, missed by ringing, and doubles.", due -> {
            UnheardBells x = Due.bells(0);
            Due.pullAndRing(x, 0, 5, 9);
            x.ring();
            due.is("one answered", x.reason(true), 1);
            Due.pullAndRing(x, 0, 6, 1);
            x.ring();
            due.is("one missed", x.reason(true), 2);
            Due.pullAndRing(x, 0, 6, 9);
            Due.pullAndRing(x, 0, 6, 9);
            x.hour();
            due.is("a second answer, and a double", x.reason(true), 4);
            x.pull(0, 7, 9);
            x.pull(0, 8, 9);
            x.cancel(0);
            x.ring();
            due.is("two taken away", x.reason(true), 4);
            x.pull(0, 9, 9);
            x.end();
            x.hour();
            due.is("one missed as the day ends", x.reason(true), 4);
        });
        s.says("Numbers of orders are asked for their range ahead of reasons.", due -> {
            for (String text : new String[] {"r4", "v0:4", "v3:0", "s3-", "p0@24*1", "p0@0*0", "p3@9*9", "c3", "o0-0"}) {
                UnheardBells x = Due.bells(0, 1, 2);
                due.refused(x, "run of " + text, Due.runText(x, text), 7, 0);
                due.refused(x, "run of it behind another", Due.runText(x, "e;" + text), 7, 1);
            }
        });
        s.says("A rope of which pulls were missed alone on a day has 1 less of rust as it ends.", due -> {
            UnheardBells x = Scenes.rusty(3);
            x.end();
            due.is("the rust", x.ropeOf(0, 2), 3);
            due.is("one missed", Due.pullAndRing(x, 0, 5, 3), 0);
            x.pull(0, 6, 9);
            due.is("and one as the day ends", x.end(), 1);
            due.is("the rust then", x.ropeOf(0, 2), 2);
        });
        s.says("Oil can take just as much rust as there is.", due -> {
            for (int rust = 1; rust <= 9; rust++) {
                UnheardBells x = Scenes.rusty(rust);
                due.is("oil(0, " + rust + ")", x.oil(0, rust), 0);
                due.is("the rust then", x.ropeOf(0, 2), 0);
            }
        });
    }

    private static void constants(Sentences s) {
        s.says("`NONE = -1011`: There is no such number.", due -> {
            due.is("NONE", UnheardBells.NONE, -1011);
            due.is("a rope that is not there", new UnheardBells().tell(0), -1011);
        });
        s.says("`BAD = -1012`: A number is out of range.", due -> {
            due.is("BAD", UnheardBells.BAD, -1012);
            due.is("a parish out of range", new UnheardBells().rope(4), -1012);
        });
        s.says("`FULL = -1013`: There is no room for more.", due -> {
            due.is("FULL", UnheardBells.FULL, -1013);
            UnheardBells x = new UnheardBells();
            Due.write(x, "e".repeat(60));
            due.is("the character 61", x.append('e'), -1013);
        });
        s.says("`REFUSED = -1014`: It is refused for a reason.", due -> {
            due.is("REFUSED", UnheardBells.REFUSED, -1014);
            UnheardBells x = new UnheardBells();
            due.is("a ring of nothing", x.ring(), -1014);
            due.is("its reason", x.reason(false), 3);
        });
        s.says("`NOTHING = -1015`: There is nothing of this kind.", due -> {
            due.is("NOTHING", UnheardBells.NOTHING, -1015);
            due.is("an undo of nothing", new UnheardBells().undo(), -1015);
        });
    }
}
