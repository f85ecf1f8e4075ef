import java.util.function.Supplier;
import java.util.function.ToIntFunction;

/** The sentences of the promises 29 to 36: reasons, accounts, undo and the snapshot. */
final class AccountSentences {
    private AccountSentences() {
    }

    static void all(Sentences s) {
        reason(s);
        account(s);
        isBalanced(s);
        means(s);
        undo(s);
        save(s);
        restore(s);
    }

    private static void reason(Sentences s) {
        s.in("Promise 29");
        s.says("Returns the latest reason, or its detail.", due -> {
            UnheardBells x = Due.bells(2);
            due.refused(x, "oil", x.oil(0, 5), 5, 0);
            due.refused(x, "move", x.move(0, 2), 4, 2);
            x.end();
            x.rope(7);
            x.tell(7);
            due.is("the reason stays", x.reason(false), 4);
            due.is("the detail stays", x.reason(true), 2);
            due.refused(x, "run", Due.runText(x, "e;c0"), 7, 1);
        });
        s.says("true for the detail, false for the reason", due -> {
            UnheardBells x = Scenes.busy();
            x.pull(0, 1, 1);
            due.is("reason(false)", x.reason(false), 2);
            due.is("reason(true)", x.reason(true), 3);
        });
        s.says("NOTHING if nothing was refused", due -> {
            UnheardBells x = new UnheardBells();
            due.is("reason(false)", x.reason(false), Due.NOTHING);
            due.is("reason(true)", x.reason(true), Due.NOTHING);
            x.rope(0);
            x.rope(4);
            x.undo();
            x.undo();
            x.restore();
            Due.runText(x, "?");
            due.is("reason(false) after other codes", x.reason(false), Due.NOTHING);
            due.is("reason(true) after other codes", x.reason(true), Due.NOTHING);
            x.ring();
            due.is("a detail of 0 is another thing", x.reason(true), 0);
        });
    }

    private static void account(Sentences s) {
        s.in("Promise 30");
        s.says("Returns an account.", due -> {
            for (int what = 0; what <= 12; what++) {
                due.is("account(" + what + ") of a new object", new UnheardBells().account(what), 0);
            }
        });
        s.says("0 for the ropes, 1 for the pulls that wait, 2 for the hour, 3 for the day, 4 for the pulls that came so far, "
            + "5 for those answered so far, 6 for those missed so far, 7 for the doubles so far, 8 for those taken away so "
            + "far, 9 for the rust of all ropes, 10 for the answers that are remembered, 11 for the characters of the text, "
            + "12 for the changes that can be undone", due -> {
                int[] wants = {3, 4, 3, 1, 15, 3, 5, 1, 2, 3, 3, 4, 8};
                UnheardBells later = Scenes.busy();
                later.hour();
                later.pull(0, 5, 3);
                later.ring();
                later.cancel(2);
                later.pull(1, 6, 9);
                later.end();
                later.append('e');
                int[] laterWants = {3, 0, 0, 2, 17, 5, 7, 2, 3, 5, 5, 5, 8};
                for (int what = 0; what <= 12; what++) {
                    due.is("account(" + what + ")", Scenes.busy().account(what), wants[what]);
                    due.is("account(" + what + ") later", later.account(what), laterWants[what]);
                }
            });
        s.says("Returns the account", due -> due.is("account(0)", Scenes.twelveRopes().account(0), 12));
        s.says("BAD if what is not from 0 to 12", due -> {
            for (int what : new int[] {Integer.MIN_VALUE, -1, 13, Integer.MAX_VALUE}) {
                Scenes.code(due, "account(" + what + ")", Scenes::busy, x -> x.account(what), Due.BAD);
            }
        });
    }

    private static void isBalanced(Sentences s) {
        s.in("Promise 31");
        s.says("Returns whether the pulls that came wait, were answered, missed, doubled or taken away", due -> {
            UnheardBells x = Scenes.busy();
            due.is("with pulls that wait", x.isBalanced(), 1);
            x.hour();
            due.is("with doubles", x.isBalanced(), 1);
            x.pull(1, 5, 9);
            x.ring();
            due.is("with a missed one", x.isBalanced(), 1);
            x.cancel(2);
            due.is("with one taken away", x.isBalanced(), 1);
            x.pull(1, 6, 9);
            x.end();
            due.is("with one missed as the day ends", x.isBalanced(), 1);
            x.undo();
            due.is("after an undo", x.isBalanced(), 1);
            x.restore();
            due.is("after a restore", x.isBalanced(), 1);
        });
        s.says("Returns 1 if it is so, 0 otherwise.", due -> {
            due.is("of a new object", new UnheardBells().isBalanced(), 1);
            due.is("of twelve ropes", Scenes.twelveRopes().isBalanced(), 1);
            due.is("of sixteen pulls", Scenes.sixteenPulls().isBalanced(), 1);
            due.is("of 36 answers", Scenes.answers(36).isBalanced(), 1);
            Scenes.leavesAll(due, "isBalanced()", Scenes::busy, UnheardBells::isBalanced);
        });
    }

    private static void means(Sentences s) {
        s.in("Promise 32");
        s.says("the sum divided by their number, both converted to double", due -> {
            due.same("three of three ropes", Scenes.busy().meanRust(), 1.0);
            UnheardBells x = Scenes.busy();
            x.hour();
            due.same("five of three ropes", x.meanRust(), 5.0 / 3.0);
            due.same("the most", Scenes.rusty(9).meanRust(), 9.0);
        });
        s.says("Returns the mean", due -> due.same("of 24 on four ropes", Scenes.answers(24).meanRust(), 6.0));
        s.says("0.0 without ropes", due -> {
            due.same("meanRust()", new UnheardBells().meanRust(), 0.0);
            due.same("meanRust() without rust", Due.bells(0, 0).meanRust(), 0.0);
        });
        s.in("Promise 33");
        s.says("the share of the pulls rung so far, or missed as days ended, that were answered, both numbers converted to float",
            due -> {
                UnheardBells x = Scenes.busy();
                x.hour();
                due.same("five of twelve, as one waits", x.answerShare(), 5.0f / 12.0f);
                x.end();
                due.same("five of thirteen", x.answerShare(), 5.0f / 13.0f);
                x.pull(0, 5, 1);
                x.cancel(0);
                due.same("one that was taken away", x.answerShare(), 5.0f / 13.0f);
            });
        s.says("Returns the share", due -> {
            due.same("of one", Scenes.answers(1).answerShare(), 1.0f);
            due.same("of 36", Scenes.answers(36).answerShare(), 1.0f);
        });
        s.says("0.0f without any", due -> {
            due.same("without ropes", new UnheardBells().answerShare(), 0.0f);
            due.same("when none was rung", Scenes.sixteenPulls().answerShare(), 0.0f);
            UnheardBells x = Scenes.sixteenPulls();
            x.cancel(0);
            due.same("when all were taken away", x.answerShare(), 0.0f);
            x = Scenes.sixteenPulls();
            x.end();
            due.same("when none was answered", x.answerShare(), 0.0f);
        });
    }

    private static void undo(Sentences s) {
        s.in("Promise 34");
        s.says("Undoes the latest change.", due -> {
            undone(due, "rope", x -> x.rope(3));
            undone(due, "move", x -> x.move(0, 3));
            undone(due, "sensor", x -> x.sensor(0, 0));
            undone(due, "oil", x -> x.oil(0, 1));
            undone(due, "pull", x -> x.pull(1, 23, 9));
            undone(due, "cancel", x -> x.cancel(0));
            undone(due, "ring", UnheardBells::ring);
            undone(due, "hour", UnheardBells::hour);
            undone(due, "end", UnheardBells::end);
            undone(due, "run", UnheardBells::run);
            undoneOfForgetting(due);
            undone(due, "run of eleven orders", x -> Due.runText(x, ";r1;v0:3;s1+;o0-1;p1@5*5;p1@6*6;h;c1;e"));
        });
        s.says("Returns the number of changes that can still be undone", due -> {
            UnheardBells x = Scenes.busy();
            for (int left = 7; left >= 0; left--) {
                due.is("undo()", x.undo(), left);
                due.is("the changes", x.account(12), left);
            }
        });
        s.says("NOTHING if there is none", due -> {
            Scenes.code(due, "undo() of a new object", UnheardBells::new, UnheardBells::undo, Due.NOTHING);
            Scenes.code(due, "the ninth undo()", () -> {
                UnheardBells x = Scenes.busy();
                for (int change = 0; change < 8; change++) {
                    x.undo();
                }
                return x;
            }, UnheardBells::undo, Due.NOTHING);
            Scenes.code(due, "undo() after a restore", () -> {
                UnheardBells x = Scenes.busy();
                x.restore();
                return x;
            }, UnheardBells::undo, Due.NOTHING);
        });
    }

    /** What the change does is undone; it is made behind seven and behind eight others. */
    private static void undone(Due due, String name, ToIntFunction<UnheardBells> change) {
        for (int before = 0; before < 2; before++) {
            int steps = before;
            Supplier<UnheardBells> scene = () -> {
                UnheardBells x = Scenes.busy();
                for (int step = 0; step < steps; step++) {
                    x.undo();
                }
                return x;
            };
            Supplier<UnheardBells> changed = () -> {
                UnheardBells x = scene.get();
                due.that(name + " is successful", change.applyAsInt(x) >= 0);
                return x;
            };
            due.that(name + " changes something", !Picture.ofState(changed).equals(Picture.ofState(scene)));
            due.picture("the state after " + name + " and undo()", Picture.ofState(() -> {
                UnheardBells x = changed.get();
                due.is("undo() of " + name, x.undo(), 7);
                return x;
            }), Picture.ofState(scene));
        }
    }

    private static void undoneOfForgetting(Due due) {
        Supplier<UnheardBells> scene = () -> Scenes.answers(20);
        due.picture("the state after answers were forgotten and undo()", Picture.ofState(() -> {
            UnheardBells x = scene.get();
            x.end();
            due.is("a text that forgets two", Due.runText(x, "p3@9*9;p2@9*9;h"), 3);
            due.is("the oldest", x.answerOf(19, 1), 2);
            x.undo();
            x.undo();
            return x;
        }), Picture.ofState(scene));
    }

    private static void save(Sentences s) {
        s.in("Promise 35");
        s.says("Saves all that changes can change", due -> {
            due.picture("what is restored", Picture.ofState(() -> {
                UnheardBells x = Scenes.busy();
                x.save();
                x.run();
                x.end();
                x.sensor(2, 0);
                x.move(2, 3);
                x.pull(0, 0, 9);
                x.ring();
                x.restore();
                return x;
            }), Picture.ofState(Scenes::busy));
            due.picture("what is restored when all that was remembered is forgotten", Picture.ofState(() -> {
                UnheardBells x = Scenes.answers(20);
                x.save();
                x.end();
                for (int answer = 0; answer < 20; answer++) {
                    x.oil(answer % 4, 1);
                    due.is("an answer", Due.pullAndRing(x, answer % 4, 23 * answer / 19, 8), 1);
                }
                x.restore();
                return x;
            }), Picture.ofState(() -> Scenes.answers(20)));
            Scenes.leavesAll(due, "save()", () -> {
                UnheardBells x = Scenes.busy();
                x.save();
                return x;
            }, UnheardBells::save);
        });
        s.says("in place of an earlier snapshot", due -> {
            UnheardBells x = new UnheardBells();
            x.save();
            x.rope(3);
            x.save();
            x.rope(2);
            due.is("restore()", x.restore(), 1);
            due.is("its parish", x.ropeOf(0, 0), 3);
        });
        s.says("Returns the ropes.", due -> {
            due.is("without ropes", new UnheardBells().save(), 0);
            due.is("of three", Scenes.busy().save(), 3);
            due.is("of twelve", Scenes.twelveRopes().save(), 12);
        });
    }

    private static void restore(Sentences s) {
        s.in("Promise 36");
        s.says("Restores the snapshot, which stays.", due -> {
            UnheardBells x = Due.bells(1);
            x.save();
            for (int time = 0; time < 3; time++) {
                x.rope(2);
                x.move(0, 3);
                due.is("restore()", x.restore(), 1);
                due.is("its parish", x.ropeOf(0, 0), 1);
            }
            x.move(0, 2);
            x.undo();
            x.restore();
            due.is("its parish", x.ropeOf(0, 0), 1);
        });
        s.says("Nothing can be undone then.", due -> {
            UnheardBells x = Scenes.busy();
            x.restore();
            due.is("the changes", x.account(12), 0);
            due.is("undo()", x.undo(), Due.NOTHING);
            due.is("the day stays", x.account(3), 1);
            x.end();
            due.is("a change after it", x.account(12), 1);
            due.is("undo() of it", x.undo(), 0);
            due.is("the day", x.account(3), 1);
            due.is("undo() behind it", x.undo(), Due.NOTHING);
        });
        s.says("Returns the ropes", due -> {
            UnheardBells x = new UnheardBells();
            x.save();
            x.rope(0);
            due.is("without ropes", x.restore(), 0);
            for (int rope = 0; rope < 12; rope++) {
                x.rope(0);
            }
            x.save();
            due.is("of twelve", x.restore(), 12);
        });
        s.says("NOTHING if there is no snapshot", due -> {
            Scenes.code(due, "restore() of a new object", UnheardBells::new, UnheardBells::restore, Due.NOTHING);
            Scenes.code(due, "restore() without a save()", Scenes::twelveRopes, UnheardBells::restore, Due.NOTHING);
        });
    }
}
