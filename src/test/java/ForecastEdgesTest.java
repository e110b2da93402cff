import java.io.IOException;
import java.util.List;

/** Boundary cases of Terms 3 and of promises 11 to 14: SETTLED, GOOD cuts, BEST, the cask. */
public final class ForecastEdgesTest extends Edges {
    private static final String AS_IT_WAS =
            "till what is KEPT is as it was behind an earlier one of them (or at the beginning)";
    private static final String WITHIN = "NONE: what is KEPT is not as it was within 300 RUNS.";
    private static final String CUTS = "CUT from END to 1000 by fifties (END, END and 50, and so on)";
    private static final String TAINTED = "has a HEART of one LITRE or more with TAINT of LIMIT or less.";
    private static final String BEST = "BEST: of these that by which HEART has most SPIRIT,"
            + " of such the least FORE, of such the least CUT.";

    private ForecastEdgesTest(Check check) throws IOException {
        super(check);
    }

    private void settledIs(int ahead, int round, int litres, int spirit) {
        due("ahead", pot.settled(0), ahead);
        due("round", pot.settled(1), round);
        due("litres", pot.settled(2), litres);
        due("spirit", pot.settled(3), spirit);
    }

    /** The first LITRE is KEPT, all others are HEART. */
    private void keepFirstLitre(int litres, int spirit, int heady, int oily) {
        pot.wash(litres, spirit, heady, oily);
        rules(1, 0, 0);
    }

    private void asAtTheBeginning() {
        edge(AS_IT_WAS, "at the beginning: nothing goes over", () -> {
            pot.wash(1, 0, 0, 0);
            settledIs(0, 1, 0, 0);
        });
        edge(AS_IT_WAS, "at the beginning: all is HEART", () -> {
            oneLitreOfHeart();
            settledIs(0, 1, 1, 600);
        });
        edge(AS_IT_WAS, "behind the first RUN: something was KEPT, nothing is any more", () -> {
            pot.run();
            rules(0, 0);
            // Nothing behind the first, nothing behind the second.
            settledIs(1, 1, 2, 603);
        });
        edge(AS_IT_WAS, "no RUN of it goes", () -> {
            pot.run();
            List<Integer> before = snapshot();
            settledIs(22, 1, 1, 607);
            unchanged("it", before);
        });
    }

    /** Three of the four numbers are as they were from the second RUN on, the fourth is not. */
    private void asInAllFourNumbers() {
        edge(AS_IT_WAS, "LITRES are the last to settle", () -> {
            // 1, 2, .. 39, 40 and then no more.
            pot.wash(2, 0, 0, 0);
            rules(0, 1000, 0);
            settledIs(40, 1, 0, 0);
        });
        edge(AS_IT_WAS, "SPIRIT is the last to settle", () -> {
            // 200, 400, 600, 659, 677, 682, 684, 684; 200 are left to HEART.
            keepFirstLitre(2, 100, 0, 0);
            settledIs(7, 1, 1, 200);
        });
        edge(AS_IT_WAS, "HEADY is the last to settle", () -> {
            // 50, 75, 88, 94, 97, 99, 100, 100.
            keepFirstLitre(2, 0, 99, 0);
            settledIs(7, 1, 1, 0);
        });
        edge(AS_IT_WAS, "OILY is the last to settle", () -> {
            // 49, 74, 86, 92, 95, 97, 98, 98.
            keepFirstLitre(2, 0, 0, 99);
            pot.rule(SLOW, 2);
            settledIs(7, 1, 1, 0);
        });
    }

    /** The number that is the last to settle falls, so that what was KEPT earlier was always more. */
    private void asInAllFourNumbersFalling() {
        edge(AS_IT_WAS, "LITRES fall: 29, 9, 9", () -> {
            pot.wash(30, 0, 0, 0);
            rules(0, 1000, 0);
            pot.run();
            rules(9, 0);
            settledIs(1, 1, 29, 0);
        });
        edge(AS_IT_WAS, "SPIRIT falls: 684, 625, 607, 601, 600, 600", () -> {
            fallFrom(100, 0, 0);
            due("kept", pot.kept(SPIRIT), 684);
            settledIs(4, 1, 1, 0);
        });
        edge(AS_IT_WAS, "HEADY falls: 100, 51, 26, 14, 8, 5, 3, 2, 2", () -> {
            fallFrom(0, 99, 0);
            due("kept", pot.kept(HEADY), 100);
            settledIs(7, 1, 1, 0);
        });
        edge(AS_IT_WAS, "OILY falls: 98, 49, 24, 12, 6, 3, 1, 0, 0", () -> {
            fallFrom(0, 0, 99);
            due("kept", pot.kept(OILY), 98);
            settledIs(7, 1, 1, 0);
        });
    }

    /** One LITRE is KEPT, with as much as gathers in it; WASH is of nothing from then on. */
    private void fallFrom(int spirit, int heady, int oily) {
        keepFirstLitre(2, spirit, heady, oily);
        pot.rule(SLOW, 2);
        for (int i = 0; i < 7; i++) {
            pot.run();
        }
        pot.wash(2, 0, 0, 0);
    }

    private void roundOfThree() {
        pot.wash(10, 286, 80, 28);
        rules(1, 407, 179, 2, 91);
    }

    private void rounds() {
        String words = "AHEAD: how many RUNS there were ahead of that earlier time; ROUND: how many from there on.";
        for (int went = 0; went <= 4; went++) {
            int runs = went;
            edge(words, "a ROUND of 3, " + runs + " RUNS later", () -> {
                roundOfThree();
                for (int i = 0; i < runs; i++) {
                    pot.run();
                }
                settledIs(Math.max(0, 3 - runs), 3, 14, 8162);
            });
        }
        edge(words, "the ROUND that goes is the one that was told", () -> {
            roundOfThree();
            for (int i = 0; i < 3; i++) {
                pot.run();
            }
            long[] first = kept();
            int litres = 0;
            for (int i = 1; i <= 3; i++) {
                litres += pot.run();
                check.holds("as it was only at its end " + i, java.util.Arrays.equals(first, kept()) == (i == 3));
            }
            due("litres of it", litres, 14);
            due("spirit of it", pot.page(3, SPIRIT) + pot.page(4, SPIRIT) + pot.page(5, SPIRIT), 8162);
        });
    }

    private void within300() {
        edge(WITHIN, "by the 299th RUN", () -> {
            latelySettled();
            pot.run();
            settledIs(298, 1, 1, 645);
        });
        edge(WITHIN, "by the 300th RUN", () -> {
            latelySettled();
            settledIs(299, 1, 1, 645);
        });
        edge(WITHIN, "by the 300th RUN, in a ROUND of 3", () -> {
            pot.wash(7, 139, 86, 97);
            rules(5, 567, 205, 5, 25);
            settledIs(297, 3, 4, 2436);
        });
        edge(WITHIN, "by the 301st RUN", () -> {
            settledByThe301st();
            settledIs(NONE, NONE, NONE, NONE);
        });
        edge(WITHIN, "by the 301st RUN, and one of them went", () -> {
            settledByThe301st();
            pot.run();
            due("ahead", pot.settled(0), 261);
            due("round", pot.settled(1), 39);
        });
        edge(WITHIN, "never: OILY grows with every RUN", () -> {
            places(0, 10, 0);
            pot.wash(30, 300, 99, 99);
            rules(9, 1000, 0, 9, 1);
            settledIs(NONE, NONE, NONE, NONE);
        });
        int[] wrong = {-1, 4, MIN, MAX};
        for (int what : wrong) {
            edge("SPIRIT of these (3)", "outside: " + what, () -> due("settled", pot.settled(what), OUTSIDE));
        }
    }

    private void latelySettled() {
        pot.wash(10, 101, 6, 15);
        rules(6, 630, 219, 5, 80);
    }

    private void settledByThe301st() {
        pot.wash(25, 35, 62, 47);
        rules(4, 681, 13, 4, 14);
    }

    private void bestIs(int fore, int cut, int spirit, int taint, int good) {
        due("fore", pot.best(0), fore);
        due("cut", pot.best(1), cut);
        due("spirit", pot.best(2), spirit);
        due("taint", pot.best(3), taint);
        due("good", pot.best(4), good);
    }

    /** y is 0 of all LITRES, so that of all CUTS only 0 leaves a HEART. */
    private void goodFores() {
        String words = "GOOD cuts: FORE 0 to 9";
        int[][] cases = {{2, 1}, {3, 2}, {10, 9}, {11, 10}, {12, 10}, {30, 10}};
        for (int[] c : cases) {
            edge(words, (c[0] - 1) + " LITRES go over", () -> {
                pot.wash(c[0], 0, 0, 0);
                pot.rule(END, 0);
                due("good", pot.best(4), c[1]);
            });
        }
        edge(words, "FORE 9 alone is GOOD", () -> {
            nineOilyLitres();
            bestIs(9, 0, 2000, 0, 21);
            pot.rule(LIMIT, 1);
            bestIs(8, 0, 2000, 1, 22);
        });
        edge(words, "whatever FORE and CUT are told", () -> {
            rules(9, 1000);
            bestIs(0, 200, 603, 10, 2);
            rules(0, 0);
            bestIs(0, 200, 603, 10, 2);
        });
    }

    /** OILY is in nine LITRES with y 0, 4 in the last of these, and not in the two with y 1000 behind them. */
    private void nineOilyLitres() {
        lateSpirit(0);
        pot.wash(12, 300, 0, 99);
        pot.rule(LIMIT, 0);
    }

    /** One LITRE goes over, with y 1000, so that every CUT is GOOD by FORE 0. */
    private void goodCuts() {
        int[][] cases = {{0, 21}, {1, 20}, {49, 20}, {50, 20}, {51, 19}, {900, 3}, {949, 2}, {950, 2}, {951, 1},
            {999, 1}, {1000, 1}};
        for (int[] c : cases) {
            edge(CUTS, "END " + c[0], () -> {
                places(0, 10, 1000);
                pot.wash(2, 0, 0, 0);
                pot.rule(END, c[0]);
                bestIs(0, c[0], 0, 0, c[1]);
            });
        }
        edge(CUTS, "the last of them that is not above y", () -> {
            // y is 690: from END 40 on 40, 90, .. 690; from 41 on 41, 91, .. 641.
            oneLitreOfHeart();
            int[][] ends = {{40, 14}, {41, 13}, {640, 2}, {641, 1}, {690, 1}, {691, 0}};
            for (int[] e : ends) {
                pot.rule(END, e[0]);
                due("good from " + e[0], pot.best(4), e[1]);
            }
        });
    }

    private void taintWithinLimit() {
        edge(TAINTED, "HEART would have no LITRE", () -> {
            pot.wash(1, 300, 0, 0);
            pot.rule(LIMIT, 99);
            bestIs(NONE, NONE, NONE, NONE, 0);
        });
        edge(TAINTED, "one LITRE, LIMIT 0, and no TAINT", () -> {
            oneLitreOfHeart();
            pot.rule(LIMIT, 0);
            bestIs(0, 0, 600, 0, 14);
        });
        edge(TAINTED, "TAINT of 1 by LIMIT 0, and by 1", () -> {
            oneLitreOfHeart();
            pot.wash(2, 300, 1, 0);
            pot.rule(LIMIT, 0);
            bestIs(NONE, NONE, NONE, NONE, 0);
            pot.rule(LIMIT, 1);
            bestIs(0, 0, 600, 1, 14);
        });
        edge(TAINTED, "TAINT of 99 by LIMIT 99, and by 98", () -> {
            pot.wash(2, 0, 0, 99);
            rules(1, 600, 0, 5, 1, 99);
            bestIs(0, 0, 0, 99, 1);
            pot.rule(LIMIT, 98);
            bestIs(NONE, NONE, NONE, NONE, 0);
        });
        edge(TAINTED, "TAINT of 100 is above every LIMIT", () -> {
            pot.wash(2, 0, 1, 99);
            rules(1, 600, 0, 5, 1, 99);
            due("taint", heartTaintWithoutHeads(), 100);
            bestIs(NONE, NONE, NONE, NONE, 0);
        });
        edge(TAINTED, "TAINT is cut ahead of LIMIT", () -> {
            // HEADY 11 and 5, OILY 2 and 3: 21 by 2 is 10; the second alone 8.
            bestIs(0, 200, 603, 10, 2);
            pot.rule(LIMIT, 9);
            bestIs(1, 200, 243, 8, 1);
            pot.rule(LIMIT, 8);
            bestIs(1, 200, 243, 8, 1);
            pot.rule(LIMIT, 7);
            bestIs(NONE, NONE, NONE, NONE, 0);
        });
    }

    private int heartTaintWithoutHeads() {
        rules(0, 0);
        return pot.part(HEART, TAINT);
    }

    private void bestOfEquals() {
        edge(BEST, "most SPIRIT, though by more FORE", () -> {
            // With LIMIT 9 the first LITRE has too much TAINT, alone and with the second.
            pot.rule(LIMIT, 9);
            due("spirit", pot.best(2), 243);
            due("fore", pot.best(0), 1);
        });
        edge(BEST, "the least FORE of such", () -> {
            lateSpirit(99);
            pot.rule(LIMIT, 3);
            bestIs(2, 0, 2000, 2, 28);
        });
        edge(BEST, "the least FORE of such, though its CUT is above another's", () -> {
            // SPIRIT 1000, then 200 six times; TAINT 3, 43, 10, 4, 2, 2, 1. By FORE 0 and CUT 250 the first alone,
            // by FORE 2 and CUT 0 the last five: 1000, and TAINT 3.
            pot.table(2, 200);
            pot.table(3, 1000);
            pot.wash(8, 300, 22, 52);
            rules(1, 600, 0, 1, 1, 3);
            bestIs(0, 250, 1000, 3, 41);
        });
        edge(BEST, "the least CUT of such", () -> {
            oneLitreOfHeart();
            pot.rule(END, 13);
            due("cut", pot.best(1), 13);
        });
        edge(BEST, "HEARTS without SPIRIT", () -> {
            pot.wash(3, 0, 0, 0);
            pot.rule(END, 0);
            bestIs(0, 0, 0, 0, 2);
        });
        edge("NONE (but of 4): there are none.", "there are none", () -> {
            pot.rule(LIMIT, 0);
            bestIs(NONE, NONE, NONE, NONE, 0);
        });
        int[] wrong = {-1, 5, MIN, MAX};
        for (int what : wrong) {
            edge("NONE (but of 4): there are none. OUTSIDE.", "outside: " + what,
                    () -> due("best", pot.best(what), OUTSIDE));
        }
    }

    private void take() {
        String words = "FORE and CUT are those of BEST: SPIRIT of HEART by it. STATE: there are no GOOD cuts.";
        edge(words, "there are none: nothing changes", () -> {
            pot.run();
            pot.rule(LIMIT, 0);
            List<Integer> before = snapshot();
            due("take()", pot.take(), STATE);
            unchanged("it", before);
        });
        edge(words, "there is one", () -> {
            pot.rule(LIMIT, 9);
            due("good", pot.best(4), 1);
            due("take()", pot.take(), 243);
            due("fore", pot.count(10), 1);
            due("cut", pot.count(11), 200);
        });
        edge(words, "they are so already", () -> {
            rules(0, 200);
            List<Integer> before = snapshot();
            due("take()", pot.take(), 603);
            unchanged("it", before);
        });
        edge(words, "SPIRIT is 0", () -> {
            pot.wash(3, 0, 0, 0);
            pot.rule(END, 0);
            due("take()", pot.take(), 0);
            due("fore", pot.count(10), 0);
            due("cut", pot.count(11), 0);
        });
        edge(words, "CUT of the most", () -> {
            places(0, 10, 1000);
            pot.rule(END, 1000);
            pot.rule(LIMIT, 99);
            due("take()", pot.take(), 960);
            due("fore", pot.count(10), 0);
            due("cut", pot.count(11), 1000);
        });
        edge(words, "FORE of the most", () -> {
            nineOilyLitres();
            due("take()", pot.take(), 2000);
            due("fore", pot.count(10), 9);
            due("cut", pot.count(11), 0);
        });
    }

    /** So many LITRES a RUN, all of them HEART, nothing KEPT. */
    private void allHeart(int litres) {
        pot.wash(litres + 1, 0, 0, 0);
        rules(0, 0, 0);
    }

    private void caskEdge(String words, int litresARun, int n, int runs) {
        edge(words, litresARun + " LITRES a RUN, n " + n, () -> {
            allHeart(litresARun);
            due("cask(n, 0)", pot.cask(n, 0), runs);
            due("cask(n, 1)", pot.cask(n, 1), runs == NONE ? NONE : 0);
        });
    }

    private void cask() {
        String till = "How many RUNS from now on till HEARTS, added, have n LITRES or more, n 1 to 999 (what = 0)";
        int[][] cases = {{1, 1, 1}, {1, 2, 2}, {2, 1, 1}, {2, 2, 1}, {2, 3, 2}, {2, 4, 2}, {29, 29, 1}, {29, 30, 2},
            {29, 999, 35}, {4, 999, 250}, {4, 996, 249}, {4, 997, 250}};
        for (int[] c : cases) {
            caskEdge(till, c[0], c[1], c[2]);
        }
        String none = "NONE: not within 300 RUNS. OUTSIDE: both.";
        int[][] late = {{1, 299, 299}, {1, 300, 300}, {1, 301, NONE}, {3, 898, 300}, {3, 900, 300}, {3, 901, NONE},
            {3, 999, NONE}};
        for (int[] c : late) {
            caskEdge(none, c[0], c[1], c[2]);
        }
        edge(none, "never: no HEART has a LITRE", () -> {
            pot.wash(1, 0, 0, 0);
            due("cask(1, 0)", pot.cask(1, 0), NONE);
            due("cask(1, 1)", pot.cask(1, 1), NONE);
        });
        int[][] wrong = {{0, 0}, {1000, 0}, {-1, 0}, {MIN, 0}, {MAX, 0}, {1, -1}, {1, 2}, {999, 2}, {1, MIN}, {1, MAX},
            {0, 2}, {1000, -1}};
        for (int[] w : wrong) {
            edge(none, "outside: " + w[0] + ", " + w[1], () -> due("cask", pot.cask(w[0], w[1]), OUTSIDE));
        }
        strengthInTheCask();
    }

    private void strengthInTheCask() {
        String words = "STRENGTH of all these HEARTS together then (1)";
        edge(words, "all LITRES of the last RUN are in, and it is cut", () -> {
            // 360 and 243 a RUN: 603 by 2, 1206 by 4.
            rules(0, 200);
            due("cask(1, 1)", pot.cask(1, 1), 301);
            due("cask(2, 1)", pot.cask(2, 1), 301);
            due("cask(3, 1)", pot.cask(3, 1), 301);
        });
        edge(words, "HEARTS that have no LITRE count as RUNS, not for STRENGTH", () -> {
            int runs = pot.cask(1, 0);
            int strength = pot.cask(1, 1);
            check.holds("more than one run", runs > 1);
            for (int i = 1; i < runs; i++) {
                due("run() " + i, pot.run(), 0);
                due("cask(1, 0) after run " + i, pot.cask(1, 0), runs - i);
                due("cask(1, 1) after run " + i, pot.cask(1, 1), strength);
            }
            due("the last run()", pot.run(), 1);
            due("its strength", pot.page(pot.count(1) - 1, STRENGTH), strength);
        });
    }

    public static void main(String[] args) throws IOException {
        ForecastEdgesTest test = new ForecastEdgesTest(new Check("ForecastEdgesTest"));
        test.asAtTheBeginning();
        test.asInAllFourNumbers();
        test.asInAllFourNumbersFalling();
        test.rounds();
        test.within300();
        test.goodFores();
        test.goodCuts();
        test.taintWithinLimit();
        test.bestOfEquals();
        test.take();
        test.cask();
        test.finish();
    }
}
