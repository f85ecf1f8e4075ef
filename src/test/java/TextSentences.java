/** The sentences of texts, in the section Terms. */
final class TextSentences {
    private TextSentences() {
    }

    static void all(Sentences s) {
        s.in("Terms");
        texts(s);
        ordersOfRopes(s);
        ordersOfPulls(s);
        digits(s);
        faults(s);
        carriedOut(s);
    }

    private static void texts(Sentences s) {
        s.says("A text has one or more orders with \";\" between them", due -> {
            fault(due, "", 0);
            fault(due, ";", 0);
            fault(due, ";e", 0);
            fault(due, "e;", 2);
            fault(due, "e;;e", 2);
            fault(due, "ee", 1);
            fault(due, "e:e", 1);
            fault(due, "e ;e", 1);
            carried(due, "e", 1);
            carried(due, "e;e", 2);
            carried(due, "e;".repeat(29) + "e", 30);
            fault(due, "e;".repeat(30), 60);
        });
    }

    private static void ordersOfRopes(Sentences s) {
        s.says("\"r\" and a parish brings a rope", due -> {
            for (int parish = 0; parish <= 3; parish++) {
                UnheardBells x = carried(due, "r" + parish, 1);
                due.is("its parish", x.ropeOf(3, 0), parish);
            }
            fault(due, "r", 1);
            fault(due, "r;", 1);
            fault(due, "r-1", 1);
            fault(due, "R1", 0);
        });
        s.says("\"v\", a rope, \":\" and a parish gives it to another one", due -> {
            due.is("the parish", carried(due, "v0:3", 1).ropeOf(0, 0), 3);
            due.is("the parish", carried(due, "v2:0", 1).ropeOf(2, 0), 0);
            fault(due, "v", 1);
            fault(due, "v:1", 1);
            fault(due, "v0", 2);
            fault(due, "v0-1", 2);
            fault(due, "v0:", 3);
            fault(due, "v0:;", 3);
        });
        s.says("\"s\", a rope, and \"+\" or \"-\" puts its sensor on or off", due -> {
            due.is("the sensor", carried(due, "s2-", 1).ropeOf(2, 1), 0);
            due.is("the sensor", carried(due, "s2-;s2+", 2).ropeOf(2, 1), 1);
            fault(due, "s", 1);
            fault(due, "s+", 1);
            fault(due, "s0", 2);
            fault(due, "s0*", 2);
            fault(due, "s0,", 2);
            fault(due, "s01", 3);
            fault(due, "s0+1", 3);
            fault(due, "s0+-", 3);
        });
        s.says("\"o\", a rope, \"-\" and a number oils it", due -> {
            UnheardBells x = Scenes.rusty(9);
            due.is("run of o0-9", Due.runText(x, "o0-9"), 1);
            due.is("the rust", x.ropeOf(0, 2), 0);
            x = Scenes.rusty(9);
            due.is("run of o00-1", Due.runText(x, "o00-1"), 1);
            due.is("the rust", x.ropeOf(0, 2), 8);
            fault(due, "o", 1);
            fault(due, "o-1", 1);
            fault(due, "o0", 2);
            fault(due, "o0+1", 2);
            fault(due, "o0-", 3);
            fault(due, "o0-+", 3);
        });
    }

    private static void ordersOfPulls(Sentences s) {
        s.says("\"p\", a rope, \"@\", an hour, \"*\" and a strength lets a pull wait", due -> {
            UnheardBells x = carried(due, "p2@0*1;p0@23*9", 2);
            int[][] wants = {{2, 0, 1}, {0, 23, 9}};
            for (int place = 0; place < 2; place++) {
                for (int what = 0; what < 3; what++) {
                    due.is("waiting(" + place + ", " + what + ")", x.waiting(place, what), wants[place][what]);
                }
            }
            fault(due, "p", 1);
            fault(due, "p@", 1);
            fault(due, "p0", 2);
            fault(due, "p0*", 2);
            fault(due, "p0@", 3);
            fault(due, "p0@*", 3);
            fault(due, "p0@1", 4);
            fault(due, "p0@1@", 4);
            fault(due, "p0@1*", 5);
            fault(due, "p0@1**", 5);
        });
        s.says("\"c\" and a rope takes its pulls away", due -> {
            UnheardBells x = carried(due, "p1@5*5;p2@5*5;p2@6*6;c2", 4);
            due.is("those that wait", x.account(1), 1);
            due.is("the rope of it", x.waiting(0, 0), 1);
            due.is("the taken away", x.account(8), 2);
            fault(due, "c", 1);
            fault(due, "c-", 1);
            fault(due, "c0:", 2);
        });
        s.says("\"n\" rings the next one", due -> {
            UnheardBells x = carried(due, "p1@5*5;p2@5*6;n", 3);
            due.is("one waits", x.account(1), 1);
            due.is("the rope that was rung", x.answerOf(0, 0), 2);
            fault(due, "n1", 1);
            fault(due, "N", 0);
        });
        s.says("\"h\" rings an hour", due -> {
            UnheardBells x = carried(due, "p1@5*5;p2@5*6;p2@6*9;h", 4);
            due.is("one waits", x.account(1), 1);
            due.is("the answers", x.account(5), 2);
            due.is("the hour", x.account(2), 5);
            fault(due, "h5", 1);
        });
        s.says("and \"e\" ends the day", due -> {
            UnheardBells x = carried(due, "p1@5*5;e", 2);
            due.is("the day", x.account(3), 1);
            due.is("the missed", x.account(6), 1);
            fault(due, "e0", 1);
        });
    }

    private static void digits(Sentences s) {
        s.says("Ropes and hours have one or two digits", due -> {
            UnheardBells x = Scenes.twelveRopes();
            due.is("one and two digits", Due.runText(x, "p1@2*1;p01@02*1;p11@23*1;p0@9*1;p00@00*1"), 5);
            int[][] wants = {{0, 0}, {1, 2}, {1, 2}, {0, 9}, {11, 23}};
            for (int place = 0; place < wants.length; place++) {
                due.is("the rope at " + place, x.waiting(place, 0), wants[place][0]);
                due.is("the hour at " + place, x.waiting(place, 1), wants[place][1]);
            }
            due.is("two digits elsewhere", Due.runText(x, "c11;c01;s10-;v09:0"), 4);
            due.is("those that wait", x.account(1), 2);
            due.is("the sensor", x.ropeOf(10, 1), 0);
            due.is("the parish", x.ropeOf(9, 0), 0);
            fault(due, "v000:1", 3);
            fault(due, "s000-", 3);
            fault(due, "c000", 3);
            fault(due, "o000-1", 3);
            fault(due, "p000@1*1", 3);
            fault(due, "p0@001*1", 5);
        });
        s.says("all else one", due -> {
            fault(due, "r01", 2);
            fault(due, "v0:01", 4);
            fault(due, "p0@1*01", 6);
            fault(due, "o0-01", 4);
            fault(due, "s0--", 3);
        });
    }

    private static void faults(Sentences s) {
        s.says("is the index of its first character with which no such text can continue", due -> {
            fault(due, "x", 0);
            fault(due, "5", 0);
            fault(due, "xx", 0);
            fault(due, "e;x;y", 2);
            fault(due, "r0;r1;p0@12x", 11);
            fault(due, "p0@12*3x", 7);
            fault(due, "p99@99*9;v99:9;x", 15);
            fault(due, "e;".repeat(29) + "ee", 59);
        });
        s.says("or its length if it ends too early", due -> {
            fault(due, "", 0);
            fault(due, "e;", 2);
            fault(due, "p0@12", 5);
            fault(due, "e;".repeat(29) + "o1", 60);
        });
    }

    private static void carriedOut(Sentences s) {
        s.says("The orders are carried out one after the other", due -> {
            UnheardBells x = carried(due, "r2;s3-;p3@1*9;s3+;p3@1*2;n;n;o3-1;e;r0", 10);
            due.is("the answers of the new rope", x.ropeOf(3, 3), 1);
            due.is("its doubles", x.ropeOf(3, 5), 1);
            due.is("the ropes", x.account(0), 5);
            due.refused(x, "a rope that comes behind its order", Due.runText(x, "s5-;r0"), 7, 0);
            due.refused(x, "the first of two that fail", Due.runText(x, "e;c0;r9"), 7, 1);
        });
        s.says("all or none", due -> Scenes.leavesAll(due, "a text of which the last order fails", () -> {
            UnheardBells x = Scenes.busy();
            Due.write(x, "xx");
            x.run();
            return x;
        }, x -> {
            Due.write(x, "n;h;v0:3;s1+;o2-1;p1@5*5;c2;r3;e;n");
            return x.run();
        }));
    }

    /** On three ropes of the parishes 0, 1 and 2 the text has a fault, and nothing of it is carried out. */
    private static void fault(Due due, String text, int position) {
        UnheardBells x = Due.bells(0, 1, 2);
        due.is("run of \"" + text + "\"", Due.runText(x, text), -2000 - position);
        due.is("the changes after \"" + text + "\"", x.account(12), 3);
        due.is("the ropes and pulls after \"" + text + "\"", x.account(0) + x.account(4), 3);
        due.is("the day after \"" + text + "\"", x.account(3), 0);
    }

    private static UnheardBells carried(Due due, String text, int orders) {
        UnheardBells x = Due.bells(0, 1, 2);
        due.is("run of \"" + text + "\"", Due.runText(x, text), orders);
        return x;
    }
}
