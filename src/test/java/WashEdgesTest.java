import java.io.IOException;
import java.util.List;

/** Boundary cases of Terms 1 and of promises 1 to 5: a new pot, wash, THE TABLE, OVER, RULES. */
public final class WashEdgesTest extends Edges {
    private WashEdgesTest(Check check) throws IOException {
        super(check);
    }

    private void newPot() {
        String words = "Nothing is KEPT, no RUN went; no IMAGE is kept.";
        edge(words, "nothing is KEPT", () -> {
            liquidDue("kept", kept(), 0, 0, 0, 0, 0, 0);
            liquidDue("charge", part(CHARGE), 12, 960, 20, 40, 80, 5);
            due("pour()", pot.pour(), 0);
        });
        edge(words, "no RUN went", () -> {
            due("count(0)", pot.count(0), 0);
            due("count(1)", pot.count(1), 0);
        });
        edge(words, "no IMAGE is kept", () -> {
            due("count(2)", pot.count(2), 0);
            due("restore(0)", pot.restore(0), STATE);
            due("restore(1)", pot.restore(1), STATE);
        });
        edge(words, "so is every other new one, whatever became of the first", () -> {
            pot.wash(30, 300, 99, 99);
            places(0, 10, 500);
            rules(9, 9, 9, 9, 9, 9);
            pot.run();
            pot.image(0);
            List<Integer> used = snapshot();
            fresh();
            check.holds("another is not as the used one", !used.equals(snapshot()));
            due("wash", pot.count(3), 12);
            due("table", pot.count(30), 1000);
            due("rule", pot.count(15), 10);
            due("images", pot.count(2), 0);
        });
    }

    /** One of the four numbers of WASH, at its edges, the others being as they are at first. */
    private void washEdge(String words, int at, int least, int most) {
        edge(words, "at first", () -> due("count", pot.count(3 + at), FIRST_WASH[at]));
        int[] right = {least, most};
        for (int v : right) {
            edge(words, "just inside: " + v, () -> {
                due("wash", washWith(at, v), 12);
                for (int i = 0; i < 4; i++) {
                    due("count " + i, pot.count(3 + i), i == at ? v : FIRST_WASH[i]);
                }
            });
        }
        int[] wrong = {least - 1, most + 1, MIN, MAX};
        for (int v : wrong) {
            edge(words, "outside: " + v, () -> {
                pot.run();
                List<Integer> before = snapshot();
                due("wash", washWith(at, v), OUTSIDE);
                unchanged("it", before);
            });
        }
    }

    private int washWith(int at, int v) {
        int[] w = FIRST_WASH.clone();
        w[at] = v;
        return pot.wash(w[0], w[1], w[2], w[3]);
    }

    private void wash() {
        washEdge("WASH: LITRES 1 to 30 (12 at first)", 0, 1, 30);
        washEdge("SPIRIT 0 to 300 a LITRE (80)", 1, 0, 300);
        washEdge("HEADY 0 to 99 (20)", 2, 0, 99);
        washEdge("OILY 0 to 99 (40) in all of it", 3, 0, 99);
        edge("OILY 0 to 99 (40) in all of it", "SPIRIT is a LITRE's, HEADY and OILY are of all", () -> {
            pot.wash(30, 300, 99, 98);
            liquidDue("charge", part(CHARGE), 30, 9000, 99, 98, 300, 6);
            pot.wash(1, 300, 99, 98);
            liquidDue("charge", part(CHARGE), 1, 300, 99, 98, 300, 197);
        });
        edge("WASH is as told: its LITRES that were.", "told anew, and told the same again", () -> {
            due("wash to 1", pot.wash(1, 0, 0, 0), 12);
            due("wash to 30", pot.wash(30, 300, 99, 99), 1);
            due("wash to 30 again", pot.wash(30, 300, 99, 99), 30);
            due("wash to 12", pot.wash(12, 0, 0, 0), 30);
            due("count(3)", pot.count(3), 12);
        });
        edge("OUTSIDE: all four.", "only one of them is right", () -> {
            List<Integer> before = snapshot();
            due("litres right", pot.wash(1, -1, -1, -1), OUTSIDE);
            due("spirit right", pot.wash(0, 0, 100, 100), OUTSIDE);
            due("heady right", pot.wash(31, 301, 0, 100), OUTSIDE);
            due("oily right", pot.wash(31, 301, 100, 0), OUTSIDE);
            due("none right", pot.wash(MIN, MAX, MIN, MAX), OUTSIDE);
            unchanged("it", before);
        });
        edge("OUTSIDE: all four.", "three right numbers are not taken with a wrong one", () -> {
            List<Integer> before = snapshot();
            due("oily wrong", pot.wash(5, 6, 7, 100), OUTSIDE);
            due("heady wrong", pot.wash(5, 6, 100, 8), OUTSIDE);
            due("spirit wrong", pot.wash(5, 301, 7, 8), OUTSIDE);
            due("litres wrong", pot.wash(31, 6, 7, 8), OUTSIDE);
            unchanged("it", before);
            due("the litres that were", pot.wash(5, 6, 7, 8), 12);
        });
    }

    private void strength() {
        String words = "STRENGTH of a LIQUID that has LITRES: SPIRIT by LITRES (0 of one that has none).";
        edge(words, "none: of what is KEPT, of HEADS, HEART and TAILS", () -> {
            rules(0, 600, 1000);
            due("kept", pot.kept(STRENGTH), 0);
            due("heads", pot.part(HEADS, STRENGTH), 0);
            due("heart", pot.part(HEART, STRENGTH), 0);
            due("tails", pot.part(TAILS, STRENGTH), 0);
        });
        edge(words, "none: of HEART on a PAGE", () -> {
            due("run()", pot.run(), 0);
            due("page", pot.page(0, STRENGTH), 0);
        });
        edge(words, "one LITRE, and LITRES without SPIRIT", () -> {
            pot.wash(1, 77, 0, 0);
            due("of one litre", pot.part(CHARGE, STRENGTH), 77);
            pot.wash(30, 0, 0, 0);
            due("without spirit", pot.part(CHARGE, STRENGTH), 0);
        });
        edge("Quotients are cut.", "STRENGTH is cut, though all but one is left over", () -> {
            // 960 less 360 is 600: of 11 LITRES 54, 6 left over; less 243 is 357: of 10 LITRES 35.
            pot.rule(END, 244);
            due("600 by 11", pot.part(LEFT, STRENGTH), 54);
            pot.rule(END, 243);
            due("357 by 10", pot.part(LEFT, STRENGTH), 35);
            pot.run();
            due("603 by 2", pot.kept(STRENGTH), 301);
        });
    }

    private void table() {
        String words = "THE TABLE tells at PLACES 0 to 10 a STRENGTH, 0 to 1000"
                + " (0, 450, 600, 690, 740, 780, 820, 860, 900, 950, 1000 at first).";
        edge(words, "at first", () -> {
            for (int place = 0; place <= 10; place++) {
                due("count of place " + place, pot.count(20 + place), FIRST_TABLE[place]);
            }
        });
        int[] ends = {0, 10};
        for (int place : ends) {
            edge(words, "the last PLACE on a side: " + place, () -> {
                due("table(place, 0)", pot.table(place, 0), FIRST_TABLE[place]);
                due("table(place, 1000)", pot.table(place, 1000), 0);
                due("table(place, 500)", pot.table(place, 500), 1000);
                for (int other = 0; other <= 10; other++) {
                    due("count " + other, pot.count(20 + other), other == place ? 500 : FIRST_TABLE[other]);
                }
            });
        }
        int[] noPlaces = {-1, 11, MIN, MAX};
        for (int place : noPlaces) {
            edge(words, "no such PLACE: " + place, () -> {
                List<Integer> before = snapshot();
                due("table(place, 0)", pot.table(place, 0), UNKNOWN);
                due("table(place, 1000)", pot.table(place, 1000), UNKNOWN);
                unchanged("it", before);
            });
        }
        int[] noStrengths = {-1, 1001, MIN, MAX};
        for (int v : noStrengths) {
            edge(words, "no such STRENGTH: " + v, () -> {
                List<Integer> before = snapshot();
                due("table(0, v)", pot.table(0, v), OUTSIDE);
                due("table(10, v)", pot.table(10, v), OUTSIDE);
                unchanged("it", before);
            });
        }
        edge("What THE TABLE tells at a PLACE is v: which it was. UNKNOWN; OUTSIDE.", "both are wrong", () -> {
            due("table(-1, -1)", pot.table(-1, -1), UNKNOWN);
            due("table(11, 1001)", pot.table(11, 1001), UNKNOWN);
            due("table(MIN, MAX)", pot.table(MIN, MAX), UNKNOWN);
        });
    }

    private void overAtPlaces() {
        String words = "p being x by 100: what THE TABLE tells at p;";
        edge(words, "nothing left over: what is told at p alone", () -> {
            for (int place = 0; place <= 10; place++) {
                due("over(" + 100 * place + ")", pot.over(100 * place), FIRST_TABLE[place]);
            }
        });
        edge(words, "the last x of a p, and the first of the next", () -> {
            pot.table(0, 100);
            pot.table(1, 300);
            pot.table(2, 0);
            due("over(99)", pot.over(99), 298);
            due("over(100)", pot.over(100), 300);
            due("over(101)", pot.over(101), 297);
            due("over(199)", pot.over(199), 3);
            due("over(200)", pot.over(200), 0);
        });
    }

    private void overAtEnds() {
        String words = "if p is less than 10, and what THE TABLE tells at p and 1 less what it tells at p,"
                + " this times what x leaves over by 100, by 100";
        edge(words, "p is 10: there is no PLACE behind it", () -> {
            pot.table(9, 0);
            pot.table(10, 777);
            due("over(1000)", pot.over(1000), 777);
        });
        edge(words, "p is 9: PLACE 10 counts", () -> {
            pot.table(9, 0);
            pot.table(10, 1000);
            due("over(900)", pot.over(900), 0);
            due("over(901)", pot.over(901), 10);
            due("over(999)", pot.over(999), 990);
        });
        edge(words, "p is 0", () -> {
            pot.table(0, 7);
            pot.table(1, 1000);
            due("over(0)", pot.over(0), 7);
            due("over(1)", pot.over(1), 16);
        });
        edge(words, "it rises by less than 1: cut", () -> {
            places(0, 10, 500);
            pot.table(1, 501);
            due("over(1)", pot.over(1), 500);
            due("over(99)", pot.over(99), 500);
            due("over(100)", pot.over(100), 501);
        });
        edge("(also if it is below 0: cut towards 0)", "it falls by less than 1", () -> {
            places(0, 10, 500);
            pot.table(1, 499);
            due("over(0)", pot.over(0), 500);
            due("over(1)", pot.over(1), 500);
            due("over(99)", pot.over(99), 500);
            due("over(100)", pot.over(100), 499);
        });
        edge("(also if it is below 0: cut towards 0)", "it falls as far as it can, and by a half", () -> {
            pot.table(4, 1000);
            pot.table(5, 0);
            due("over(401)", pot.over(401), 990);
            due("over(499)", pot.over(499), 10);
            pot.table(4, 11);
            due("over(450)", pot.over(450), 6);
        });
        edge("OVER of a STRENGTH. OUTSIDE: it is not 0 to 1000.", "too small", () -> {
            due("over(0)", pot.over(0), 0);
            due("over(-1)", pot.over(-1), OUTSIDE);
            due("over(-100)", pot.over(-100), OUTSIDE);
            due("over(MIN)", pot.over(MIN), OUTSIDE);
        });
        edge("OVER of a STRENGTH. OUTSIDE: it is not 0 to 1000.", "too large", () -> {
            due("over(1000)", pot.over(1000), 1000);
            due("over(1001)", pot.over(1001), OUTSIDE);
            due("over(1100)", pot.over(1100), OUTSIDE);
            due("over(MAX)", pot.over(MAX), OUTSIDE);
        });
    }

    private void ruleEdge(String words, int what, int least, int most) {
        edge(words, "at first", () -> due("count", pot.count(10 + what), FIRST_RULES[what]));
        edge(words, "least and most", () -> {
            due("rule to the least", pot.rule(what, least), FIRST_RULES[what]);
            due("count of the least", pot.count(10 + what), least);
            due("rule to the most", pot.rule(what, most), least);
            due("rule to the most again", pot.rule(what, most), most);
            for (int other = 0; other <= 5; other++) {
                due("count " + other, pot.count(10 + other), other == what ? most : FIRST_RULES[other]);
            }
        });
        int[] wrong = {least - 1, most + 1, MIN, MAX};
        for (int v : wrong) {
            edge(words, "outside: " + v, () -> {
                List<Integer> before = snapshot();
                due("rule", pot.rule(what, v), OUTSIDE);
                unchanged("it", before);
            });
        }
    }

    private void rule() {
        ruleEdge("0 FORE, 0 to 9 (1 at first)", FORE, 0, 9);
        ruleEdge("1 CUT, 0 to 1000 (600)", CUT, 0, 1000);
        ruleEdge("2 END, 0 to 1000 (200)", END, 0, 1000);
        ruleEdge("3 FAST, 1 to 9 (5)", FAST, 1, 9);
        ruleEdge("4 SLOW, 1 to 99 (9)", SLOW, 1, 99);
        ruleEdge("5 LIMIT, 0 to 99 (10)", LIMIT, 0, 99);
        int[] noRules = {-1, 6, MIN, MAX};
        for (int what : noRules) {
            edge("A RULE is v: which it was. OUTSIDE: both.", "no such RULE: " + what, () -> {
                List<Integer> before = snapshot();
                due("rule(what, 1)", pot.rule(what, 1), OUTSIDE);
                due("rule(what, -1)", pot.rule(what, -1), OUTSIDE);
                due("rule(what, MAX)", pot.rule(what, MAX), OUTSIDE);
                unchanged("it", before);
            });
        }
    }

    public static void main(String[] args) throws IOException {
        WashEdgesTest test = new WashEdgesTest(new Check("WashEdgesTest"));
        test.newPot();
        test.wash();
        test.strength();
        test.table();
        test.overAtPlaces();
        test.overAtEnds();
        test.rule();
        test.finish();
    }
}
