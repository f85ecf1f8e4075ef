/** Promises 16 to 21: answers, guesses. */
public final class AnswersTest {
    private static final Due due = new Due("AnswersTest");

    public static void main(String[] args) {
        answerOf();
        answerOfForgets();
        answered();
        guessByPart();
        guessOfForgotten();
        parishOf();
        busiest();
        due.end();
    }

    private static void answerOf() {
        UnheardBells x = Due.bells(0, 1);
        x.end();
        Due.pullAndRing(x, 1, 4, 7);
        Due.pullAndRing(x, 1, 4, 7);
        Due.pullAndRing(x, 1, 5, 1);
        due.is("one is remembered; doubles and missed ones are not", x.account(10), 1);
        x.end();
        Due.pullAndRing(x, 0, 9, 3);
        int[] latest = {0, 9, 2, 3};
        int[] before = {1, 4, 1, 7};
        for (int what = 0; what < 4; what++) {
            due.is("answerOf(0, " + what + ")", x.answerOf(0, what), latest[what]);
            due.is("answerOf(1, " + what + ")", x.answerOf(1, what), before[what]);
        }
        due.is("answerOf(2, 0)", x.answerOf(2, 0), Due.NONE);
        due.is("answerOf(-1, 4)", x.answerOf(-1, 4), Due.NONE);
        due.is("answerOf(0, 4)", x.answerOf(0, 4), Due.BAD);
        due.is("answerOf(0, -1)", x.answerOf(0, -1), Due.BAD);
    }

    private static void answerOfForgets() {
        UnheardBells x = Due.bells(0, 1, 2, 3);
        for (int answer = 0; answer < 23; answer++) {
            Due.pullAndRing(x, answer % 4, answer, 9);
        }
        due.is("answers remembered", x.account(10), 20);
        due.is("answers that count", x.account(5), 23);
        for (int place = 0; place < 20; place++) {
            due.is("the hour at " + place, x.answerOf(place, 1), 22 - place);
            due.is("the rope at " + place, x.answerOf(place, 0), (22 - place) % 4);
        }
        due.is("answerOf(20, 0)", x.answerOf(20, 0), Due.NONE);
        due.is("a forgotten answer counts for its rope", x.ropeOf(0, 3), 6);
    }

    private static void answered() {
        UnheardBells x = new UnheardBells();
        for (int rope = 0; rope < 12; rope++) {
            x.rope(0);
        }
        due.is("answered(-1)", x.answered(-1), Due.BAD);
        due.is("answered(24)", x.answered(24), Due.BAD);
        due.is("answered(0)", x.answered(0), 0);
        x.pull(0, 0, 1);
        x.pull(11, 0, 1);
        x.pull(4, 23, 1);
        x.pull(5, 23, 1);
        x.sensor(5, 0);
        x.hour();
        due.is("answered(0)", x.answered(0), 2049);
        x.hour();
        due.is("answered(23)", x.answered(23), 16);
        due.is("answered(1)", x.answered(1), 0);
        due.is("answered(0) later", x.answered(0), 2049);
        x.end();
        due.is("answered(23) on the next day", x.answered(23), 0);
    }

    private static void guessByPart() {
        UnheardBells x = Due.bells(0, 1, 1, 2, 2, 3, 3, 3);
        bothGuesses(x, "of an hour below 0", -1, Due.BAD);
        bothGuesses(x, "of an hour above 23", 24, Due.BAD);
        bothGuesses(x, "without answers", 0, Due.NOTHING);
        ringAt(x, 1, 1, 5);
        bothGuesses(x, "a half is more than a third", 1, 1);
        ringAt(x, 2, 3, 5, 6);
        bothGuesses(x, "two thirds are more than a half", 2, 3);
        ringAt(x, 3, 2, 3);
        bothGuesses(x, "of the same part and number the lowest", 3, 1);
        ringAt(x, 4, 3, 4, 0);
        bothGuesses(x, "of the same part the one of more ropes", 4, 2);
        ringAt(x, 5, 5, 6, 7, 1);
        bothGuesses(x, "a whole one", 5, 3);
        x.move(0, 3);
        bothGuesses(x, "a parish without ropes has no part", 4, 2);
        x.move(2, 0);
        bothGuesses(x, "the parish that a rope has now", 3, 0);
        x.end();
        bothGuesses(x, "on the next day", 3, Due.NOTHING);
        UnheardBells y = Due.bells(3, 3, 1, 1, 1, 1);
        ringAt(y, 0, 0, 2, 3);
        bothGuesses(y, "a half of each: the one of more ropes", 0, 1);
    }

    private static void guessOfForgotten() {
        UnheardBells x = Due.bells(0, 1, 2);
        Due.pullAndRing(x, 2, 0, 1);
        for (int hour = 1; hour < 23; hour++) {
            Due.pullAndRing(x, hour % 2, hour, 9);
            if (x.ropeOf(hour % 2, 2) > 7) {
                x.oil(hour % 2, 7);
            }
        }
        due.is("all were answered", x.account(5), 23);
        due.is("the first one is forgotten", x.answerOf(19, 1), 3);
        due.is("answered(0)", x.answered(0), 4);
        bothGuesses(x, "of a forgotten answer", 0, 2);
    }

    private static void parishOf() {
        UnheardBells x = Due.bells(0, 1, 1, 3);
        due.is("parishOf(-1, 5)", x.parishOf(-1, 5), Due.NONE);
        due.is("parishOf(4, 0)", x.parishOf(4, 0), Due.NONE);
        due.is("parishOf(0, -1)", x.parishOf(0, -1), Due.BAD);
        due.is("parishOf(0, 5)", x.parishOf(0, 5), Due.BAD);
        ringAt(x, 1, 1, 2);
        ringAt(x, 2, 2);
        ringAt(x, 3, 0);
        x.oil(2, 1);
        x.pull(1, 9, 1);
        x.pull(2, 9, 1);
        x.pull(1, 8, 1);
        x.pull(3, 8, 1);
        numbersOfParish(x, 0, 1, 1, 1, 1, 0);
        numbersOfParish(x, 1, 2, 3, 2, 2, 3);
        numbersOfParish(x, 2, 0, 0, 0, 0, 0);
        numbersOfParish(x, 3, 1, 0, 0, 0, 1);
        x.move(2, 0);
        numbersOfParish(x, 0, 2, 3, 2, 2, 1);
        numbersOfParish(x, 1, 1, 1, 1, 1, 2);
        UnheardBells y = Due.bells(2);
        ringAt(y, 0, 0);
        ringAt(y, 23, 0);
        due.is("the hours 0 and 23 count", y.parishOf(2, 3), 2);
    }

    private static void numbersOfParish(UnheardBells x, int parish, int... wants) {
        for (int what = 0; what < wants.length; what++) {
            due.is("parishOf(" + parish + ", " + what + ")", x.parishOf(parish, what), wants[what]);
        }
    }

    private static void busiest() {
        UnheardBells x = Due.bells(0, 1, 2);
        due.is("busiest() without answers", x.busiest(), Due.NOTHING);
        ringAt(x, 0, 0);
        due.is("the hour 0", x.busiest(), 0);
        x.end();
        ringAt(x, 4, 0);
        due.is("busiest()", x.busiest(), 4);
        ringAt(x, 5, 0);
        due.is("of several the earliest", x.busiest(), 4);
        ringAt(x, 7, 1, 2);
        due.is("the one of most ropes", x.busiest(), 7);
        ringAt(x, 23, 0, 1, 2);
        due.is("the hour 23", x.busiest(), 23);
        x.end();
        due.is("on the next day", x.busiest(), Due.NOTHING);
    }

    private static void ringAt(UnheardBells x, int hour, int... ropes) {
        for (int rope : ropes) {
            due.is("an answer of " + rope + " at " + hour, Due.pullAndRing(x, rope, hour, 9), 1);
        }
    }

    private static void bothGuesses(UnheardBells x, String what, int hour, int want) {
        due.is("guess, " + what, x.guess(hour), want);
        due.is("guessAgain, " + what, x.guessAgain(hour), want);
    }
}
