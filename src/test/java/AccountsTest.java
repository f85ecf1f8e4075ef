/** Promises 29 to 36: reasons, accounts, undo and the snapshot. */
public final class AccountsTest {
    private static final Due due = new Due("AccountsTest");

    public static void main(String[] args) {
        reason();
        account();
        isBalanced();
        meanRust();
        answerShare();
        undo();
        undoOfEachChange();
        undoOfForgetting();
        undoOfRinging();
        codesAreNoChanges();
        codesLeaveWhatCanBeUndone();
        save();
        restore();
        restoreKeepsWhatStays();
        due.end();
    }

    private static void reason() {
        UnheardBells x = new UnheardBells();
        due.is("reason(false)", x.reason(false), Due.NOTHING);
        due.is("reason(true)", x.reason(true), Due.NOTHING);
        x.ring();
        x.rope(2);
        due.is("the reason stays", x.reason(false), 3);
        x.rope(9);
        x.tell(5);
        due.is("other codes leave it", x.reason(false), 3);
        x.move(0, 2);
        due.is("the latest reason", x.reason(false), 4);
        due.is("its detail", x.reason(true), 2);
        x.undo();
        x.save();
        x.restore();
        due.is("it is not undone", x.reason(false), 4);
        due.is("its detail is not undone", x.reason(true), 2);
    }

    private static void account() {
        UnheardBells x = Due.bells(0, 1, 1);
        x.end();
        x.pull(0, 2, 5);
        x.pull(0, 2, 4);
        x.pull(1, 2, 1);
        x.hour();
        x.pull(1, 2, 1);
        x.pull(1, 3, 1);
        x.pull(2, 4, 9);
        x.ring();
        x.ring();
        x.cancel(2);
        x.pull(0, 9, 1);
        x.pull(0, 9, 2);
        Due.write(x, "e;e");
        int[] wants = {3, 2, 3, 1, 8, 2, 1, 2, 1, 2, 2, 3, 8};
        for (int what = 0; what < wants.length; what++) {
            due.is("account(" + what + ")", x.account(what), wants[what]);
        }
        due.is("account(-1)", x.account(-1), Due.BAD);
        due.is("account(13)", x.account(13), Due.BAD);
        x.end();
        due.is("missed as the day ends", x.account(6), 3);
        due.is("isBalanced()", x.isBalanced(), 1);
    }

    private static void isBalanced() {
        UnheardBells x = Due.bells(0, 1, 2, 3, 0, 1);
        for (int turn = 0; turn < 40; turn++) {
            x.pull(turn % 6, Math.min(turn / 2, 23), 1 + turn % 9);
            x.pull(turn % 4, Math.min(turn / 2, 23), 1 + turn * 7 % 9);
            due.is("isBalanced() with pulls", x.isBalanced(), 1);
            due.is("both forecasts", x.forecast(), x.forecastAgain());
            x.ring();
            if (turn % 5 == 0) {
                x.cancel(turn % 6);
                x.move(turn % 6, turn % 4);
            }
            due.is("isBalanced() after a ring", x.isBalanced(), 1);
        }
        x.end();
        due.is("isBalanced() after the day", x.isBalanced(), 1);
    }

    private static void meanRust() {
        UnheardBells x = new UnheardBells();
        due.same("meanRust() without ropes", x.meanRust(), 0.0);
        x.rope(0);
        due.same("meanRust() without rust", x.meanRust(), 0.0);
        Due.pullAndRing(x, 0, 0, 9);
        due.same("meanRust() of one rope", x.meanRust(), 1.0);
        x.end();
        x.end();
        x.rope(1);
        x.rope(1);
        Due.pullAndRing(x, 0, 0, 9);
        due.same("a third", x.meanRust(), 1.0 / 3.0);
        Due.pullAndRing(x, 1, 1, 9);
        Due.pullAndRing(x, 1, 2, 9);
        due.same("three thirds", x.meanRust(), 1.0);
        Due.pullAndRing(x, 1, 3, 9);
        due.same("four thirds", x.meanRust(), 4.0 / 3.0);
    }

    private static void answerShare() {
        UnheardBells x = Due.bells(0, 1);
        due.same("answerShare() without any", x.answerShare(), 0.0f);
        x.pull(0, 0, 1);
        x.pull(1, 5, 1);
        due.same("those that wait do not count", x.answerShare(), 0.0f);
        x.ring();
        due.same("all", x.answerShare(), 1.0f);
        Due.pullAndRing(x, 0, 0, 9);
        due.same("doubles count", x.answerShare(), 0.5f);
        Due.pullAndRing(x, 0, 1, 1);
        due.same("missed ones count", x.answerShare(), 1.0f / 3.0f);
        x.cancel(1);
        due.same("those taken away do not count", x.answerShare(), 1.0f / 3.0f);
        x.pull(1, 5, 1);
        x.pull(1, 6, 1);
        x.end();
        due.same("those missed as days end count", x.answerShare(), 0.2f);
    }

    private static void undo() {
        UnheardBells x = new UnheardBells();
        due.is("undo() of nothing", x.undo(), Due.NOTHING);
        for (int rope = 0; rope < 10; rope++) {
            x.rope(0);
        }
        due.is("changes", x.account(12), 8);
        for (int left = 7; left >= 0; left--) {
            due.is("undo()", x.undo(), left);
            due.is("ropes", x.account(0), left + 2);
            due.is("changes", x.account(12), left);
        }
        due.is("undo() of the ninth", x.undo(), Due.NOTHING);
        due.is("ropes", x.account(0), 2);
        x.rope(3);
        x.rope(2);
        due.is("undo() of new changes", x.undo(), 1);
        due.is("the parish", x.ropeOf(2, 0), 3);
        due.is("a change after that", x.rope(1), 3);
        due.is("undo()", x.undo(), 1);
        due.is("undo()", x.undo(), 0);
        due.is("ropes", x.account(0), 2);
    }

    private static void undoOfEachChange() {
        for (int change = 0; change < 10; change++) {
            int its = change;
            UnheardBells x = full();
            due.that("the change " + change + " is successful", make(x, change) >= 0);
            due.is("undo of change " + change, x.undo(), 7);
            due.picture("all before change " + change, Picture.ofState(() -> {
                UnheardBells y = full();
                make(y, its);
                y.undo();
                return y;
            }), Picture.ofState(AccountsTest::full));
        }
        UnheardBells y = Due.bells(1);
        due.is("an end without effect but the day", y.end(), 0);
        due.is("it is a change", y.account(12), 2);
    }

    private static void codesAreNoChanges() {
        due.picture("all after codes", Picture.ofState(() -> {
            UnheardBells x = full();
            answerCodes(x);
            return x;
        }), Picture.ofState(AccountsTest::full));
        UnheardBells x = full();
        answerCodes(x);
        due.is("changes", x.account(12), 8);
    }

    private static void answerCodes(UnheardBells x) {
        x.rope(4);
        x.move(0, 0);
        x.move(0, 9);
        x.sensor(0, 1);
        x.oil(0, 9);
        x.pull(0, 1, 1);
        x.pull(0, 24, 1);
        x.cancel(1);
        x.cancel(12);
        Due.runText(x, "r1;e;c1");
        Due.runText(x, "r1;e;c");
        x.forecast();
        x.tell(0);
        x.save();
    }

    private static void undoOfForgetting() {
        UnheardBells x = forgetful();
        due.is("the oldest are forgotten", x.answerOf(19, 1), 2);
        due.picture("what was forgotten is remembered again", Picture.ofState(() -> {
            UnheardBells y = forgetful();
            for (int change = 0; change < 5; change++) {
                y.undo();
            }
            return y;
        }), Picture.ofState(AccountsTest::remembering));
        due.is("the oldest", remembering().answerOf(19, 1), 0);
    }

    private static UnheardBells remembering() {
        UnheardBells x = Due.bells(0, 1, 2);
        for (int answer = 0; answer < 20; answer++) {
            Due.pullAndRing(x, answer % 3, answer, 9);
        }
        return x;
    }

    private static UnheardBells forgetful() {
        UnheardBells x = remembering();
        x.end();
        Due.pullAndRing(x, 2, 1, 9);
        Due.pullAndRing(x, 1, 3, 8);
        return x;
    }

    private static void undoOfRinging() {
        UnheardBells x = Due.bells(0);
        Due.pullAndRing(x, 0, 0, 9);
        x.undo();
        x.cancel(0);
        due.refused(x, "ring when none was rung but one that was undone", x.ring(), 3, 0);
    }

    private static void codesLeaveWhatCanBeUndone() {
        UnheardBells x = new UnheardBells();
        for (int rope = 0; rope < 9; rope++) {
            x.rope(rope % 4);
        }
        x.rope(4);
        x.ring();
        Due.runText(x, "r0;r0;c0");
        for (int left = 7; left >= 0; left--) {
            due.is("undo() after codes", x.undo(), left);
            due.is("ropes", x.account(0), left + 1);
        }
        due.is("the first rope", x.ropeOf(0, 0), 0);
    }

    private static UnheardBells full() {
        UnheardBells x = Due.bells(0, 1, 2);
        x.sensor(1, 0);
        x.pull(0, 2, 9);
        x.pull(0, 3, 8);
        x.ring();
        x.pull(0, 4, 7);
        x.pull(0, 4, 6);
        x.pull(2, 4, 5);
        x.pull(2, 9, 5);
        return x;
    }

    private static int make(UnheardBells x, int change) {
        switch (change) {
            case 0:
                return x.rope(3);
            case 1:
                return x.move(0, 3);
            case 2:
                return x.sensor(0, 0);
            case 3:
                return x.oil(0, 1);
            case 4:
                return x.pull(1, 5, 5);
            case 5:
                return x.cancel(0);
            case 6:
                return x.ring();
            case 7:
                return x.hour();
            case 8:
                return x.end();
            default:
                return Due.runText(x, "r3;h;v0:2;o0-1;h;p1@9*9;s1+;e");
        }
    }

    private static void save() {
        UnheardBells x = new UnheardBells();
        due.is("restore() without a snapshot", x.restore(), Due.NOTHING);
        due.is("save() without ropes", x.save(), 0);
        x.rope(0);
        x.rope(1);
        due.is("save() in place of an earlier one", x.save(), 2);
        due.is("it is no change", x.account(12), 2);
        x.rope(2);
        due.is("restore()", x.restore(), 2);
        due.is("ropes", x.account(0), 2);
        due.picture("all that was saved", Picture.ofState(() -> {
            UnheardBells y = full();
            due.is("save()", y.save(), 3);
            for (int change = 0; change < 10; change++) {
                make(y, change);
            }
            due.is("restore()", y.restore(), 3);
            return y;
        }), Picture.ofState(AccountsTest::full));
    }

    private static void restore() {
        UnheardBells x = Due.bells(0, 1);
        x.save();
        due.is("undo() leaves the snapshot", x.undo(), 1);
        due.is("restore()", x.restore(), 2);
        due.is("the changes then", x.account(12), 0);
        due.is("undo() then", x.undo(), Due.NOTHING);
        due.is("ropes", x.account(0), 2);
        x.rope(3);
        due.is("a new change can be undone", x.undo(), 0);
        due.is("ropes", x.account(0), 2);
        x.rope(3);
        x.pull(0, 3, 3);
        due.is("the snapshot stays", x.restore(), 2);
        due.is("none waits", x.account(1), 0);
        x.pull(0, 5, 5);
        due.is("and stays", x.restore(), 2);
        due.is("none waits", x.account(1), 0);
    }

    private static void restoreKeepsWhatStays() {
        UnheardBells x = Due.bells(0);
        x.save();
        Due.write(x, "e;e");
        x.tell(0);
        x.move(0, 0);
        x.restore();
        due.is("the text", x.account(11), 3);
        due.text("the line", Due.lineOf(x), "0:0");
        due.is("the reason", x.reason(false), 4);
        due.is("the detail", x.reason(true), 0);
        due.is("run of the text", x.run(), 2);
        x.undo();
        due.is("undo leaves the text empty", x.account(11), 0);
    }
}
