import java.io.IOException;
import java.util.List;

/** Boundary cases of Terms 2 and of promises 6 to 10: what goes over, what is cut off, what is KEPT. */
public final class RunEdgesTest extends Edges {
    private RunEdgesTest(Check check) throws IOException {
        super(check);
    }

    /** Wash without SPIRIT, so that y of every LITRE is what THE TABLE tells at PLACE 0. */
    private void weakWash(int litres, int y, int heady, int oily) {
        pot.wash(litres, 0, heady, oily);
        pot.table(0, y);
        pot.rule(END, 0);
    }

    /** 29 LITRES are KEPT, and what is told lets all go over, into TAILS. */
    private void keep29() {
        weakWash(30, 0, 0, 0);
        rules(0, 1000);
        pot.run();
        due("litres kept to begin with", pot.kept(LITRES), 29);
    }

    private void charge() {
        String words = "THE CHARGE is WASH, and what is KEPT (a LIQUID, of nothing at first), each of them added.";
        edge(words, "nothing KEPT", () -> liquidDue("charge", part(CHARGE), 12, 960, 20, 40, 80, 5));
        edge(words, "each of the four is added", () -> {
            pot.run();
            liquidDue("charge", part(CHARGE), 14, 1563, 36, 45, 111, 5);
        });
        edge(words, "WASH of the least, and what is KEPT", () -> {
            pot.run();
            pot.wash(1, 0, 0, 0);
            liquidDue("charge", part(CHARGE), 3, 603, 16, 5, 201, 7);
        });
    }

    private void lastLitreStays() {
        String words = "As long as more than one LITRE is in the pot";
        edge(words, "one LITRE: none goes over", () -> {
            weakWash(1, 1000, 99, 99);
            due("litres", pot.litre(-1, 0), 0);
            liquidDue("left", part(LEFT), 1, 0, 99, 99);
        });
        edge(words, "two LITRES: one goes over", () -> {
            weakWash(2, 1000, 0, 0);
            due("litres", pot.litre(-1, 0), 1);
            due("left", pot.part(LEFT, LITRES), 1);
        });
        edge(words, "three LITRES: two go over", () -> {
            weakWash(3, 1000, 0, 0);
            due("litres", pot.litre(-1, 0), 2);
            due("left", pot.part(LEFT, LITRES), 1);
        });
        edge(words, "one of WASH and one KEPT: one goes over", () -> {
            weakWash(2, 0, 0, 0);
            pot.run();
            due("kept", pot.kept(LITRES), 1);
            pot.wash(1, 0, 0, 0);
            due("litres", pot.litre(-1, 0), 1);
        });
    }

    private void noMoreThan40() {
        String words = "and 40 LITRES have not gone over yet";
        int[][] cases = {{10, 38, 1}, {11, 39, 1}, {12, 40, 1}, {13, 40, 2}, {30, 40, 19}};
        for (int[] c : cases) {
            edge(words, (29 + c[0]) + " LITRES in the pot", () -> {
                keep29();
                pot.wash(c[0], 0, 0, 0);
                due("charge", pot.part(CHARGE, LITRES), 29 + c[0]);
                due("litres", pot.litre(-1, 0), c[1]);
                due("left", pot.part(LEFT, LITRES), c[2]);
                due("last litre", pot.litre(c[1] - 1, 0), 0);
                due("behind the last", pot.litre(c[1], 0), UNKNOWN);
                pot.run();
                due("kept", pot.kept(LITRES), c[1]);
            });
        }
    }

    /** LITRES go over with y 0, till four are left in the pot with all the SPIRIT: what is y then? */
    private void strongAtFour(int litres, int spirit, int strength, int y) {
        edge("OVER of the STRENGTH of what is in the pot (OVER of 1000, if that is more)",
                "STRENGTH " + strength, () -> {
                    places(0, 9, 0);
                    pot.table(10, 700);
                    pot.wash(litres, spirit, 0, 0);
                    pot.rule(END, 0);
                    due("y ahead of it", pot.litre(litres - 5, 0), 0);
                    due("y", pot.litre(litres - 4, 0), y);
                });
    }

    private void strongestY() {
        strongAtFour(27, 148, 999, 693);
        strongAtFour(20, 200, 1000, 700);
        strongAtFour(22, 182, 1001, 700);
        strongAtFour(22, 200, 1100, 700);
    }

    /** STRENGTH 100 of two LITRES, so that y is what THE TABLE tells at PLACE 1, and SPIRIT is 200. */
    private void spiritEdge(String which, int y, int spirit) {
        edge("SPIRIT y, but no more than there is", which, () -> {
            pot.wash(2, 100, 0, 0);
            pot.table(1, y);
            pot.rule(END, 0);
            due("y", pot.litre(0, 0), y);
            due("spirit", pot.litre(0, 1), spirit);
            due("left", pot.part(LEFT, SPIRIT), 200 - spirit);
        });
    }

    private void spirit() {
        spiritEdge("one is left", 199, 199);
        spiritEdge("just as much as there is", 200, 200);
        spiritEdge("one is missing", 201, 200);
        spiritEdge("far too little", 1000, 200);
        spiritEdge("y is 0", 0, 0);
        edge("SPIRIT y, but no more than there is", "there is none", () -> {
            weakWash(2, 1000, 0, 0);
            due("y", pot.litre(0, 0), 1000);
            due("spirit", pot.litre(0, 1), 0);
        });
    }

    private void headyEdge(int fast, int heady, int goesOver) {
        edge("HEADY: what there is times FAST, by 10, and 1 more (no more than there is)",
                heady + " by FAST " + fast, () -> {
                    weakWash(2, 0, heady, 0);
                    pot.rule(FAST, fast);
                    due("heady", pot.litre(0, 2), goesOver);
                    due("left", pot.part(LEFT, HEADY), heady - goesOver);
                });
    }

    private void heady() {
        int[][] cases = {{1, 0, 0}, {9, 0, 0}, {1, 1, 1}, {9, 1, 1}, {1, 9, 1}, {1, 10, 2}, {1, 99, 10},
            {9, 2, 2}, {9, 10, 10}, {9, 11, 10}, {9, 99, 90}, {5, 2, 2}, {5, 3, 2}};
        for (int[] c : cases) {
            headyEdge(c[0], c[1], c[2]);
        }
        edge("HEADY: what there is times FAST, by 10, and 1 more (no more than there is)",
                "all of it is gone, and LITRES still go over", () -> {
                    weakWash(4, 0, 2, 0);
                    due("heady of litre 0", pot.litre(0, 2), 2);
                    due("heady of litre 1", pot.litre(1, 2), 0);
                    due("heady of litre 2", pot.litre(2, 2), 0);
                    due("left", pot.part(LEFT, HEADY), 0);
                });
    }

    private void oilyEdge(int oily, int y, int slow, int goesOver) {
        edge("OILY: what there is times (1000 less y), by (1000 times SLOW).",
                oily + " by y " + y + " and SLOW " + slow, () -> {
                    weakWash(2, y, 0, oily);
                    pot.rule(SLOW, slow);
                    due("oily", pot.litre(0, 3), goesOver);
                    due("left", pot.part(LEFT, OILY), oily - goesOver);
                });
    }

    private void oily() {
        int[][] cases = {{0, 0, 1, 0}, {99, 0, 1, 99}, {99, 1, 1, 98}, {99, 1000, 1, 0}, {99, 990, 1, 0},
            {99, 989, 1, 1}, {99, 0, 99, 1}, {98, 0, 99, 0}, {99, 1, 99, 0}, {99, 0, 2, 49}};
        for (int[] c : cases) {
            oilyEdge(c[0], c[1], c[2], c[3]);
        }
    }

    private void lessInThePot() {
        String words = "These are less in the pot by it, and a LITRE.";
        edge(words, "all that goes over and what is left are THE CHARGE", () -> {
            pot.wash(30, 300, 99, 99);
            rules(3, 640, 0, 3, 5);
            pot.run();
            for (int what = LITRES; what <= OILY; what++) {
                int over = pot.part(HEADS, what) + pot.part(HEART, what) + pot.part(TAILS, what);
                due("over and left " + what, over + pot.part(LEFT, what), pot.part(CHARGE, what));
                check.holds("nothing below 0 is left " + what, pot.part(LEFT, what) >= 0);
            }
        });
    }

    private void end() {
        String words = "But if y is below END, that LITRE does not go over, and none does any more.";
        int[][] going = {{0, 0}, {1, 1}, {500, 500}, {1000, 1000}, {1000, 0}, {500, 499}};
        for (int[] c : going) {
            edge(words, "y " + c[0] + " is not below END " + c[1], () -> {
                weakWash(3, c[0], 0, 0);
                pot.rule(END, c[1]);
                due("litres", pot.litre(-1, 0), 2);
            });
        }
        int[][] ending = {{0, 1}, {499, 500}, {999, 1000}, {0, 1000}};
        for (int[] c : ending) {
            edge(words, "y " + c[0] + " is below END " + c[1], () -> {
                weakWash(3, c[0], 9, 9);
                pot.rule(END, c[1]);
                due("litres", pot.litre(-1, 0), 0);
                liquidDue("left", part(LEFT), 3, 0, 9, 9);
            });
        }
        edge(words, "behind LITRES that went over", () -> {
            // y is 360, 243, then 157 (35 of 100 by 450).
            pot.rule(END, 157);
            due("litre 2 goes", pot.litre(2, 0), 157);
            pot.rule(END, 158);
            due("two litres go", pot.litre(-1, 0), 2);
            liquidDue("nothing of the third goes", part(LEFT), 10, 357, 4, 35);
            pot.rule(END, 243);
            due("still two", pot.litre(-1, 0), 2);
            pot.rule(END, 244);
            due("one", pot.litre(-1, 0), 1);
        });
        edge(words, "none any more, though y would be above END again", () -> {
            lateSpirit(0);
            due("all go by END 0", pot.litre(-1, 0), 11);
            pot.rule(END, 1);
            due("none goes by END 1", pot.litre(-1, 0), 0);
        });
        edge("What is left in the pot goes away.", "it is not KEPT", () -> {
            pot.rule(END, 1000);
            due("left", pot.part(LEFT, LITRES), 12);
            pot.run();
            liquidDue("kept", kept(), 0, 0, 0, 0, 0, 0);
            liquidDue("charge of the next", part(CHARGE), 12, 960, 20, 40);
        });
    }

    private void heads() {
        String words = "HEADS are the first FORE of them.";
        int[][] cases = {{0, 0, 3}, {1, 1, 2}, {2, 2, 1}, {3, 3, 0}, {4, 3, 0}, {9, 3, 0}};
        for (int[] c : cases) {
            edge(words, "FORE " + c[0] + " of three LITRES", () -> {
                weakWash(4, 500, 0, 0);
                rules(c[0], 500);
                due("heads", pot.part(HEADS, LITRES), c[1]);
                due("heart", pot.part(HEART, LITRES), c[2]);
                due("tails", pot.part(TAILS, LITRES), 0);
                for (int i = 0; i < 3; i++) {
                    due("side of litre " + i, pot.litre(i, 4), i < c[1] ? 0 : 1);
                }
            });
        }
        edge(words, "FORE 9 of ten LITRES", () -> {
            weakWash(11, 500, 0, 0);
            rules(9, 500);
            due("litre 8", pot.litre(8, 4), 0);
            due("litre 9", pot.litre(9, 4), 1);
        });
        edge(words, "no LITRE goes over", () -> {
            weakWash(1, 500, 0, 0);
            pot.rule(FORE, 9);
            liquidDue("heads", part(HEADS), 0, 0, 0, 0, 0, 0);
        });
    }

    private void heart() {
        String words = "HEART those from the first of them on, up to, not with,"
                + " the first of them of which y is below CUT";
        int[][] cases = {{0, 0, 1}, {0, 1, 2}, {500, 500, 1}, {499, 500, 2}, {501, 500, 1}, {1000, 1000, 1},
            {999, 1000, 2}, {1000, 0, 1}};
        for (int[] c : cases) {
            edge(words, "y " + c[0] + ", CUT " + c[1], () -> {
                weakWash(3, c[0], 0, 0);
                rules(0, c[1]);
                due("litre 0", pot.litre(0, 4), c[2]);
                due("litre 1", pot.litre(1, 4), c[2]);
                due("heart", pot.part(HEART, LITRES), c[2] == 1 ? 2 : 0);
                due("tails", pot.part(TAILS, LITRES), c[2] == 2 ? 2 : 0);
                due("run()", pot.run(), c[2] == 1 ? 2 : 0);
            });
        }
        edge(words, "the cut lies between two LITRES", () -> {
            // y is 360 and 243.
            int[][] sides = {{360, 1, 2}, {361, 2, 2}, {244, 1, 2}, {243, 1, 1}};
            pot.rule(FORE, 0);
            for (int[] s : sides) {
                pot.rule(CUT, s[0]);
                due("litre 0, CUT " + s[0], pot.litre(0, 4), s[1]);
                due("litre 1, CUT " + s[0], pot.litre(1, 4), s[2]);
            }
        });
        edge(words, "it is y that counts, not the SPIRIT that there was", () -> {
            spiritBelowY();
            due("litre 0", pot.litre(0, 4), 1);
        });
        edge(words, "a CUT below END cuts nothing off", () -> {
            rules(0, 0, 200);
            due("heart", pot.part(HEART, LITRES), 2);
            due("tails", pot.part(TAILS, LITRES), 0);
        });
        edge(words, "HEADS below CUT do not end HEART", () -> {
            lateSpirit(0);
            pot.rule(FORE, 9);
            due("heart", pot.part(HEART, LITRES), 2);
            due("tails", pot.part(TAILS, LITRES), 0);
        });
        edge("TAILS all from that on.", "those, too, of which y is not below CUT", () -> {
            lateSpirit(0);
            due("y of litre 9", pot.litre(9, 0), 1000);
            due("side of litre 9", pot.litre(9, 4), 2);
            due("side of litre 10", pot.litre(10, 4), 2);
            liquidDue("tails", part(TAILS), 10, 2000, 0, 0);
        });
    }

    private void spiritBelowY() {
        pot.wash(2, 300, 0, 0);
        rules(0, 690, 0);
        due("y", pot.litre(0, 0), 690);
        due("spirit", pot.litre(0, 1), 600);
    }

    private void keeping() {
        String words = "KEPT is then HEADS and TAILS, added.";
        edge(words, "all is HEART: nothing is KEPT", () -> {
            rules(0, 0);
            pot.run();
            liquidDue("kept", kept(), 0, 0, 0, 0, 0, 0);
        });
        edge(words, "what was KEPT is not KEPT any more", () -> {
            pot.run();
            liquidDue("kept", kept(), 2, 603, 16, 5);
            rules(0, 0);
            pot.run();
            liquidDue("kept", kept(), 0, 0, 0, 0);
        });
        edge(words, "HEADS alone, TAILS alone, and both", () -> {
            rules(1, 200);
            pot.run();
            liquidDue("heads", kept(), 1, 360, 11, 2);
            pot.pour();
            rules(0, 300);
            pot.run();
            liquidDue("tails", kept(), 1, 243, 5, 3);
            pot.pour();
            rules(1, 300);
            pot.run();
            liquidDue("both", kept(), 2, 603, 16, 5);
        });
    }

    private void taint() {
        String words = "TAINT of a LIQUID that has LITRES: HEADY and OILY, added, by LITRES (0 of one that has none).";
        edge(words, "none", () -> {
            rules(0, 600, 1000);
            due("kept", pot.kept(TAINT), 0);
            due("heads", pot.part(HEADS, TAINT), 0);
            due("heart", pot.part(HEART, TAINT), 0);
            due("tails", pot.part(TAILS, TAINT), 0);
            pot.run();
            due("page", pot.page(0, TAINT), 0);
        });
        edge(words, "added first, then cut", () -> {
            pot.wash(2, 0, 1, 1);
            due("1 and 1 by 2", pot.part(CHARGE, TAINT), 1);
            pot.wash(2, 0, 1, 0);
            due("1 and 0 by 2", pot.part(CHARGE, TAINT), 0);
            pot.wash(30, 0, 29, 0);
            due("29 by 30", pot.part(CHARGE, TAINT), 0);
            pot.wash(30, 0, 15, 15);
            due("30 by 30", pot.part(CHARGE, TAINT), 1);
            pot.wash(1, 0, 99, 99);
            due("198 by 1", pot.part(CHARGE, TAINT), 198);
        });
    }

    private void run() {
        String words = "The next RUN goes: how many LITRES HEART has; what is KEPT, THE BOOK are as told then.";
        edge(words, "HEART has none", () -> due("run()", pot.run(), 0));
        edge(words, "no LITRE goes over: it went, and has its PAGE", () -> {
            weakWash(1, 0, 0, 0);
            due("run()", pot.run(), 0);
            due("runs", pot.count(0), 1);
            due("pages", pot.count(1), 1);
            liquidDue("page", page(0), 0, 0, 0, 0, 0, 0);
        });
        edge(words, "HEART has the most: 40", () -> {
            keep29();
            rules(0, 0);
            due("run()", pot.run(), 40);
            due("page", pot.page(1, LITRES), 40);
            due("kept", pot.kept(LITRES), 0);
        });
    }

    private void litre() {
        String count = "i = -1: how many LITRES there are (what is no matter, if it is 0 to 4).";
        edge(count, "what is 0 to 4", () -> {
            for (int what = 0; what <= 4; what++) {
                due("litre(-1, " + what + ")", pot.litre(-1, what), 2);
            }
        });
        edge(count, "what is not", () -> {
            due("litre(-1, -1)", pot.litre(-1, -1), OUTSIDE);
            due("litre(-1, 5)", pot.litre(-1, 5), OUTSIDE);
            due("litre(-1, MIN)", pot.litre(-1, MIN), OUTSIDE);
            due("litre(-1, MAX)", pot.litre(-1, MAX), OUTSIDE);
        });
        edge(count, "there are none", () -> {
            pot.wash(1, 0, 0, 0);
            due("litre(-1, 0)", pot.litre(-1, 0), 0);
            due("litre(-1, 4)", pot.litre(-1, 4), 0);
            due("litre(-1, 5)", pot.litre(-1, 5), OUTSIDE);
            due("litre(0, 0)", pot.litre(0, 0), UNKNOWN);
        });
        edge(count, "there are 40", () -> {
            keep29();
            due("litre(-1, 0)", pot.litre(-1, 0), 40);
            due("litre(39, 4)", pot.litre(39, 4), 2);
            due("litre(40, 4)", pot.litre(40, 4), UNKNOWN);
        });
        String wrong = "UNKNOWN (i below -1, too); OUTSIDE: what.";
        edge(wrong, "i below -1", () -> {
            due("litre(-2, 0)", pot.litre(-2, 0), UNKNOWN);
            due("litre(-2, 4)", pot.litre(-2, 4), UNKNOWN);
            due("litre(MIN, 0)", pot.litre(MIN, 0), UNKNOWN);
        });
        edge(wrong, "i behind the last", () -> {
            due("litre(1, 0)", pot.litre(1, 0), 243);
            due("litre(2, 0)", pot.litre(2, 0), UNKNOWN);
            due("litre(2, 4)", pot.litre(2, 4), UNKNOWN);
            due("litre(40, 0)", pot.litre(40, 0), UNKNOWN);
            due("litre(MAX, 0)", pot.litre(MAX, 0), UNKNOWN);
        });
        edge(wrong, "what too small, what too large", () -> {
            due("litre(0, -1)", pot.litre(0, -1), OUTSIDE);
            due("litre(1, 5)", pot.litre(1, 5), OUTSIDE);
            due("litre(0, MIN)", pot.litre(0, MIN), OUTSIDE);
            due("litre(0, MAX)", pot.litre(0, MAX), OUTSIDE);
        });
        edge(wrong, "both: UNKNOWN is told first", () -> {
            due("litre(-2, 5)", pot.litre(-2, 5), UNKNOWN);
            due("litre(2, -1)", pot.litre(2, -1), UNKNOWN);
            due("litre(MIN, MAX)", pot.litre(MIN, MAX), UNKNOWN);
        });
    }

    private void part() {
        String words = "STRENGTH (4), TAINT (5). OUTSIDE: both.";
        edge(words, "the last of each: what is left in the pot, TAINT", () -> {
            due("part(0, 0)", pot.part(0, 0), 12);
            due("part(0, 5)", pot.part(0, 5), 5);
            due("part(4, 0)", pot.part(4, 0), 10);
            due("part(4, 5)", pot.part(4, 5), 3);
        });
        int[][] wrong = {{-1, 0}, {5, 0}, {MIN, 0}, {MAX, 0}, {0, -1}, {0, 6}, {4, -1}, {4, 6}, {0, MIN}, {0, MAX},
            {-1, -1}, {5, 6}};
        for (int[] w : wrong) {
            edge(words, "outside: " + w[0] + ", " + w[1], () -> due("part", pot.part(w[0], w[1]), OUTSIDE));
        }
    }

    private void keptAndPour() {
        String words = "Of what is KEPT: what as in part(). OUTSIDE.";
        edge(words, "least and most", () -> {
            pot.run();
            due("kept(0)", pot.kept(0), 2);
            due("kept(5)", pot.kept(5), 10);
        });
        int[] wrong = {-1, 6, MIN, MAX};
        for (int what : wrong) {
            edge(words, "outside: " + what, () -> due("kept", pot.kept(what), OUTSIDE));
        }
        String pour = "What is KEPT goes away: how many LITRES it had.";
        edge(pour, "it had none", () -> {
            List<Integer> before = snapshot();
            due("pour()", pot.pour(), 0);
            unchanged("it", before);
        });
        edge(pour, "it had some, and has none then", () -> {
            pot.run();
            due("pour()", pot.pour(), 2);
            liquidDue("kept", kept(), 0, 0, 0, 0, 0, 0);
            liquidDue("charge", part(CHARGE), 12, 960, 20, 40);
            due("pour() again", pot.pour(), 0);
            due("runs", pot.count(0), 1);
            due("pages", pot.count(1), 1);
        });
        edge(pour, "it had the most: 40", () -> {
            keep29();
            pot.run();
            due("pour()", pot.pour(), 40);
            due("kept", pot.kept(LITRES), 0);
        });
    }

    public static void main(String[] args) throws IOException {
        RunEdgesTest test = new RunEdgesTest(new Check("RunEdgesTest"));
        test.charge();
        test.lastLitreStays();
        test.noMoreThan40();
        test.strongestY();
        test.spirit();
        test.heady();
        test.oily();
        test.lessInThePot();
        test.end();
        test.heads();
        test.heart();
        test.keeping();
        test.taint();
        test.run();
        test.litre();
        test.part();
        test.keptAndPour();
        test.finish();
    }
}
