import java.util.List;

/** Each promise by its number: ordinary calls, the edges that the document names, wrong calls. */
public final class PromiseTest extends Bench {
    private PromiseTest(Check check) {
        super(check);
    }

    private void promise1() {
        fresh();
        liquidDue("1 kept", kept(), 0, 0, 0, 0, 0, 0);
        due("1 runs", pot.count(0), 0);
        due("1 pages", pot.count(1), 0);
        due("1 images", pot.count(2), 0);
        due("1 page(0, 0)", pot.page(0, 0), UNKNOWN);
        due("1 restore(0)", pot.restore(0), STATE);
        due("1 restore(1)", pot.restore(1), STATE);
        for (int i = 0; i < FIRST_WASH.length; i++) {
            due("1 wash at first " + i, pot.count(3 + i), FIRST_WASH[i]);
        }
        for (int i = 0; i < FIRST_RULES.length; i++) {
            due("1 rule at first " + i, pot.count(10 + i), FIRST_RULES[i]);
        }
        for (int i = 0; i < FIRST_TABLE.length; i++) {
            due("1 table at first " + i, pot.count(20 + i), FIRST_TABLE[i]);
        }
        Pot other = new Pot();
        pot.table(3, 7);
        pot.rule(CUT, 7);
        pot.wash(7, 7, 7, 7);
        pot.run();
        pot.image(0);
        due("1 another object's table", other.count(23), 690);
        due("1 another object's rule", other.count(11), 600);
        due("1 another object's wash", other.count(3), 12);
        due("1 another object's runs", other.count(0), 0);
        due("1 another object's images", other.count(2), 0);
        due("1 a later object's table", new Pot().count(23), 690);
    }

    private void washIs(int litres, int spirit, int heady, int oily) {
        due("2 litres", pot.count(3), litres);
        due("2 spirit", pot.count(4), spirit);
        due("2 heady", pot.count(5), heady);
        due("2 oily", pot.count(6), oily);
        liquidDue("2 charge", part(0), litres, litres * spirit, heady, oily);
    }

    private void promise2() {
        fresh();
        due("2 wash(5, 100, 7, 9)", pot.wash(5, 100, 7, 9), 12);
        washIs(5, 100, 7, 9);
        due("2 wash(30, 300, 99, 99)", pot.wash(30, 300, 99, 99), 5);
        washIs(30, 300, 99, 99);
        due("2 wash(1, 0, 0, 0)", pot.wash(1, 0, 0, 0), 30);
        washIs(1, 0, 0, 0);
        List<Integer> before = snapshot();
        int[][] wrong = {{0, 1, 1, 1}, {31, 1, 1, 1}, {-1, 1, 1, 1}, {2, -1, 1, 1}, {2, 301, 1, 1},
            {2, 1, -1, 1}, {2, 1, 100, 1}, {2, 1, 1, -1}, {2, 1, 1, 100}, {MIN, 1, 1, 1}, {MAX, 1, 1, 1},
            {2, MIN, 1, 1}, {2, MAX, 1, 1}, {2, 1, MIN, 1}, {2, 1, MAX, 1}, {2, 1, 1, MIN}, {2, 1, 1, MAX}};
        for (int[] w : wrong) {
            due("2 wrong wash", pot.wash(w[0], w[1], w[2], w[3]), OUTSIDE);
        }
        unchanged("2 a wrong wash", before);
    }

    private void promise3() {
        fresh();
        for (int place = 0; place <= 10; place++) {
            due("3 table " + place, pot.table(place, 1000 - place), FIRST_TABLE[place]);
        }
        for (int place = 0; place <= 10; place++) {
            due("3 table again " + place, pot.table(place, place % 2 == 0 ? 0 : 1000), 1000 - place);
            due("3 told " + place, pot.count(20 + place), place % 2 == 0 ? 0 : 1000);
        }
        List<Integer> before = snapshot();
        due("3 table(-1, 0)", pot.table(-1, 0), UNKNOWN);
        due("3 table(11, 0)", pot.table(11, 0), UNKNOWN);
        due("3 table(11, -1)", pot.table(11, -1), UNKNOWN);
        due("3 table(MIN, MAX)", pot.table(MIN, MAX), UNKNOWN);
        due("3 table(MAX, 0)", pot.table(MAX, 0), UNKNOWN);
        due("3 table(0, -1)", pot.table(0, -1), OUTSIDE);
        due("3 table(10, 1001)", pot.table(10, 1001), OUTSIDE);
        due("3 table(5, MIN)", pot.table(5, MIN), OUTSIDE);
        unchanged("3 a wrong table", before);
    }

    private void promise4() {
        fresh();
        int[] least = {0, 0, 0, 1, 1, 0};
        int[] most = {9, 1000, 1000, 9, 99, 99};
        for (int what = 0; what <= 5; what++) {
            due("4 least " + what, pot.rule(what, least[what]), FIRST_RULES[what]);
            due("4 most " + what, pot.rule(what, most[what]), least[what]);
            due("4 told " + what, pot.count(10 + what), most[what]);
            List<Integer> before = snapshot();
            due("4 below " + what, pot.rule(what, least[what] - 1), OUTSIDE);
            due("4 above " + what, pot.rule(what, most[what] + 1), OUTSIDE);
            due("4 far below " + what, pot.rule(what, MIN), OUTSIDE);
            due("4 far above " + what, pot.rule(what, MAX), OUTSIDE);
            unchanged("4 a wrong rule " + what, before);
        }
        due("4 rule(-1, 1)", pot.rule(-1, 1), OUTSIDE);
        due("4 rule(6, 1)", pot.rule(6, 1), OUTSIDE);
        due("4 rule(MIN, 1)", pot.rule(MIN, 1), OUTSIDE);
        due("4 rule(MAX, 1)", pot.rule(MAX, 1), OUTSIDE);
    }

    private void promise5() {
        fresh();
        for (int place = 0; place <= 10; place++) {
            due("5 over at place " + place, pot.over(100 * place), FIRST_TABLE[place]);
        }
        due("5 over(1)", pot.over(1), 4);
        due("5 over(99)", pot.over(99), 445);
        due("5 over(333)", pot.over(333), 706);
        due("5 over(999)", pot.over(999), 999);
        // Falling: 10 less 5 (5.5 cut towards 0), not 10 less 6.
        pot.table(0, 10);
        pot.table(1, 0);
        due("5 over(55), falling", pot.over(55), 5);
        due("5 over(1), falling", pot.over(1), 10);
        due("5 over(99), falling", pot.over(99), 1);
        pot.table(10, 3);
        due("5 over(1000)", pot.over(1000), 3);
        due("5 over(950)", pot.over(950), 950 - 473);
        due("5 over(-1)", pot.over(-1), OUTSIDE);
        due("5 over(1001)", pot.over(1001), OUTSIDE);
        due("5 over(MIN)", pot.over(MIN), OUTSIDE);
        due("5 over(MAX)", pot.over(MAX), OUTSIDE);
    }

    private void promise6() {
        fresh();
        due("6 run()", pot.run(), 0);
        liquidDue("6 kept", kept(), 2, 603, 16, 5, 301, 10);
        due("6 runs", pot.count(0), 1);
        due("6 pages", pot.count(1), 1);
        liquidDue("6 charge of the next", part(0), 14, 1563, 36, 45, 111, 5);
        runTakesPartsAsSeen();
        // A RUN without a LITRE gets its PAGE, too, and leaves nothing KEPT.
        pot.rule(END, 1000);
        due("6 run() with nothing over", pot.run(), 0);
        liquidDue("6 kept of nothing", kept(), 0, 0, 0, 0, 0, 0);
        due("6 pages then", pot.count(1), 7);
        oneLitreOfHeart();
        for (int i = 0; i < 12; i++) {
            pot.wash(2, 100 + i, 0, 0);
            due("6 run() " + i, pot.run(), 1);
            due("6 pages " + i, pot.count(1), i + 1);
        }
        due("6 eldest of 12", pot.page(0, 1), 200);
        pot.wash(2, 150, 0, 0);
        due("6 run() 12", pot.run(), 1);
        due("6 pages of 13 runs", pot.count(1), 12);
        due("6 runs of 13", pot.count(0), 13);
        due("6 eldest of 13", pot.page(0, 1), 202);
        due("6 newest of 13", pot.page(11, 1), 300);
        due("6 no page 12", pot.page(12, 1), UNKNOWN);
    }

    private void runTakesPartsAsSeen() {
        fresh();
        pot.wash(20, 200, 50, 60);
        rules(2, 500, 100, 3, 20);
        for (int i = 0; i < 6; i++) {
            long[] heads = part(1);
            long[] heart = part(2);
            long[] tails = part(3);
            due("6 run() as seen", pot.run(), heart[0]);
            for (int what = 0; what <= 3; what++) {
                due("6 kept as seen", pot.kept(what), heads[what] + tails[what]);
            }
            for (int what = 0; what <= 5; what++) {
                due("6 page as seen", pot.page(i, what), heart[what]);
            }
        }
    }

    private void promise7() {
        fresh();
        List<Integer> before = snapshot();
        for (int what = 0; what <= 4; what++) {
            due("7 litre(-1, " + what + ")", pot.litre(-1, what), 2);
        }
        liquidDue("7 litre 0", litre(0), 360, 360, 11, 2, 0);
        liquidDue("7 litre 1", litre(1), 243, 243, 5, 3, 2);
        due("7 litre(2, 0)", pot.litre(2, 0), UNKNOWN);
        due("7 litre(-2, 0)", pot.litre(-2, 0), UNKNOWN);
        due("7 litre(-2, 5)", pot.litre(-2, 5), UNKNOWN);
        due("7 litre(2, -1)", pot.litre(2, -1), UNKNOWN);
        due("7 litre(MIN, MIN)", pot.litre(MIN, MIN), UNKNOWN);
        due("7 litre(MAX, 0)", pot.litre(MAX, 0), UNKNOWN);
        due("7 litre(0, 5)", pot.litre(0, 5), OUTSIDE);
        due("7 litre(0, -1)", pot.litre(0, -1), OUTSIDE);
        due("7 litre(-1, 5)", pot.litre(-1, 5), OUTSIDE);
        due("7 litre(-1, -1)", pot.litre(-1, -1), OUTSIDE);
        unchanged("7 litre", before);
        whatOneLitreTakes();
        whenNoMoreGoesOver();
        sidesOfLitres();
    }

    private void whatOneLitreTakes() {
        fresh();
        // y 690 of STRENGTH 300, but SPIRIT is only 600; HEADY 99 by FAST 9 is 89 and 1 more.
        pot.wash(2, 300, 99, 99);
        rules(0, 0, 0, 9, 1);
        liquidDue("7 all the spirit", litre(0), 690, 600, 90, 30, 1);
        pot.rule(FAST, 1);
        pot.rule(SLOW, 99);
        liquidDue("7 slow", litre(0), 690, 600, 10, 0, 1);
        // 1 by 9 by 10 is 0, and 1 more; of nothing there is no more than nothing.
        pot.wash(2, 0, 1, 99);
        pot.rule(FAST, 9);
        pot.rule(SLOW, 1);
        liquidDue("7 the last heady, all the oily", litre(0), 0, 0, 1, 99, 1);
        pot.wash(2, 0, 0, 0);
        liquidDue("7 nothing", litre(0), 0, 0, 0, 0, 1);
        lateSpirit(0);
        due("7 litres of late spirit", pot.litre(-1, 0), 11);
        due("7 STRENGTH 900", pot.litre(8, 0), 0);
        liquidDue("7 STRENGTH 1200", litre(9), 1000, 1000, 0, 0, 2);
        liquidDue("7 STRENGTH 1300", litre(10), 1000, 1000, 0, 0, 2);
    }

    private void whenNoMoreGoesOver() {
        fresh();
        pot.wash(1, 300, 99, 99);
        due("7 one litre stays", pot.litre(-1, 0), 0);
        due("7 no litre 0", pot.litre(0, 0), UNKNOWN);
        pot.wash(2, 300, 99, 99);
        pot.rule(END, 690);
        due("7 y is END", pot.litre(-1, 0), 1);
        pot.rule(END, 691);
        due("7 y is below END", pot.litre(-1, 0), 0);
        fresh();
        pot.wash(30, 300, 0, 0);
        rules(1, 1000, 0);
        due("7 all but one", pot.litre(-1, 0), 29);
        pot.run();
        due("7 40 at most", pot.litre(-1, 0), 40);
        due("7 litre(39, 1) is there", pot.litre(39, 4), 2);
        due("7 litre(40, 1) is not", pot.litre(40, 1), UNKNOWN);
        due("7 left behind 40", pot.part(4, 0), 19);
        // Once y is below END none goes any more, though a later STRENGTH would do.
        lateSpirit(0);
        pot.rule(END, 1);
        due("7 none behind END", pot.litre(-1, 0), 0);
        due("7 all left", pot.part(4, 0), 12);
    }

    private void sidesOfLitres() {
        fresh();
        pot.wash(12, 300, 0, 0);
        rules(2, 600, 0);
        int tails = 0;
        int n = pot.litre(-1, 4);
        for (int i = 0; i < n; i++) {
            tails = i >= 2 && pot.litre(i, 0) < 600 ? 1 : tails;
            due("7 side of " + i, pot.litre(i, 4), i < 2 ? 0 : 1 + tails);
        }
        pot.rule(CUT, 690);
        pot.rule(FORE, 0);
        due("7 y is CUT", pot.litre(0, 4), 1);
        pot.rule(CUT, 691);
        due("7 y is below CUT", pot.litre(0, 4), 2);
        pot.rule(FORE, 9);
        due("7 heads though below CUT", pot.litre(8, 4), 0);
        due("7 behind heads", pot.litre(9, 4), 2);
        // TAILS stay TAILS, though y is above CUT again; HEADS do not begin them.
        lateSpirit(0);
        due("7 late litre is of tails", pot.litre(9, 4), 2);
        pot.rule(FORE, 9);
        due("7 late litre is of heart behind 9 heads", pot.litre(9, 4), 1);
        due("7 the last one, too", pot.litre(10, 4), 1);
    }

    private void promise8() {
        fresh();
        List<Integer> before = snapshot();
        liquidDue("8 charge", part(0), 12, 960, 20, 40, 80, 5);
        liquidDue("8 heads", part(1), 1, 360, 11, 2, 360, 13);
        liquidDue("8 heart", part(2), 0, 0, 0, 0, 0, 0);
        liquidDue("8 tails", part(3), 1, 243, 5, 3, 243, 8);
        liquidDue("8 left", part(4), 10, 357, 4, 35, 35, 3);
        unchanged("8 part", before);
        pot.rule(FORE, 0);
        pot.rule(CUT, 243);
        liquidDue("8 heads of none", part(1), 0, 0, 0, 0, 0, 0);
        liquidDue("8 heart of two", part(2), 2, 603, 16, 5, 301, 10);
        liquidDue("8 tails of none", part(3), 0, 0, 0, 0, 0, 0);
        pot.rule(FORE, 9);
        liquidDue("8 heads, all there are", part(1), 2, 603, 16, 5, 301, 10);
        liquidDue("8 heart behind them", part(2), 0, 0, 0, 0, 0, 0);
        lateSpirit(0);
        liquidDue("8 left, above 1000", part(4), 1, 1600, 0, 0, 1600, 0);
        int[] wrong = {-1, MIN, MAX};
        for (int w : wrong) {
            due("8 part(" + w + ", 0)", pot.part(w, 0), OUTSIDE);
            due("8 part(0, " + w + ")", pot.part(0, w), OUTSIDE);
        }
        due("8 part(5, 0)", pot.part(5, 0), OUTSIDE);
        due("8 part(0, 6)", pot.part(0, 6), OUTSIDE);
    }

    private void promise9() {
        fresh();
        liquidDue("9 kept at first", kept(), 0, 0, 0, 0, 0, 0);
        pot.run();
        liquidDue("9 kept of heads and tails", kept(), 2, 603, 16, 5, 301, 10);
        due("9 kept(-1)", pot.kept(-1), OUTSIDE);
        due("9 kept(6)", pot.kept(6), OUTSIDE);
        due("9 kept(MIN)", pot.kept(MIN), OUTSIDE);
        due("9 kept(MAX)", pot.kept(MAX), OUTSIDE);
    }

    private void promise10() {
        fresh();
        due("10 pour() of nothing", pot.pour(), 0);
        pot.run();
        due("10 pour()", pot.pour(), 2);
        liquidDue("10 kept", kept(), 0, 0, 0, 0, 0, 0);
        liquidDue("10 charge", part(0), 12, 960, 20, 40);
        due("10 runs stay", pot.count(0), 1);
        due("10 pages stay", pot.count(1), 1);
        due("10 pour() again", pot.pour(), 0);
    }

    private void settledIs(String when, int ahead, int round, int litres, int spirit) {
        due("11 ahead " + when, pot.settled(0), ahead);
        due("11 round " + when, pot.settled(1), round);
        due("11 litres " + when, pot.settled(2), litres);
        due("11 spirit " + when, pot.settled(3), spirit);
    }

    private void promise11() {
        fresh();
        pot.rule(END, 1000);
        settledIs("of nothing", 0, 1, 0, 0);
        oneLitreOfHeart();
        settledIs("at once", 0, 1, 1, 600);
        fresh();
        pot.wash(10, 286, 80, 28);
        rules(1, 407, 179, 2, 91);
        List<Integer> before = snapshot();
        settledIs("in a round of 3", 3, 3, 14, 8162);
        unchanged("11 settled", before);
        for (int i = 1; i <= 5; i++) {
            pot.run();
            settledIs("after run " + i, Math.max(0, 3 - i), 3, 14, 8162);
        }
        int litres = pot.run() + pot.run() + pot.run();
        due("11 litres of a round that goes", litres, 14);
        due("11 spirit of a round that goes", pot.page(5, 1) + pot.page(6, 1) + pot.page(7, 1), 8162);
        settledWithin300();
        List<Integer> again = snapshot();
        due("11 settled(-1)", pot.settled(-1), OUTSIDE);
        due("11 settled(4)", pot.settled(4), OUTSIDE);
        due("11 settled(MIN)", pot.settled(MIN), OUTSIDE);
        due("11 settled(MAX)", pot.settled(MAX), OUTSIDE);
        unchanged("11 a wrong settled", again);
    }

    private void settledWithin300() {
        fresh();
        pot.wash(10, 101, 6, 15);
        rules(6, 630, 219, 5, 80);
        settledIs("by the 300th run", 299, 1, 1, 645);
        fresh();
        pot.wash(7, 139, 86, 97);
        rules(5, 567, 205, 5, 25);
        settledIs("by the 300th run, in a round of 3", 297, 3, 4, 2436);
        // By the 301st RUN: not within 300 now, within 300 when one of them is behind.
        fresh();
        pot.wash(25, 35, 62, 47);
        rules(4, 681, 13, 4, 14);
        settledIs("by the 301st run", NONE, NONE, NONE, NONE);
        due("11 OUTSIDE ahead of NONE", pot.settled(4), OUTSIDE);
        pot.run();
        due("11 ahead a run later", pot.settled(0), 261);
        due("11 round a run later", pot.settled(1), 39);
    }

    private void bestIs(String when, int fore, int cut, int spirit, int taint, int good) {
        due("12 fore " + when, pot.best(0), fore);
        due("12 cut " + when, pot.best(1), cut);
        due("12 spirit " + when, pot.best(2), spirit);
        due("12 taint " + when, pot.best(3), taint);
        due("12 good " + when, pot.best(4), good);
    }

    private void promise12() {
        fresh();
        List<Integer> before = snapshot();
        // By FORE 0: both LITRES by CUT 200 (taint 21 by 2), the first alone by 250 to 350 (13: too much);
        // by FORE 1: the second alone, by CUT 200 (8).
        bestIs("at first", 0, 200, 603, 10, 2);
        pot.rule(LIMIT, 9);
        bestIs("with LIMIT 9", 1, 200, 243, 8, 1);
        pot.rule(LIMIT, 13);
        bestIs("with LIMIT 13", 0, 200, 603, 10, 5);
        pot.rule(LIMIT, 7);
        bestIs("with LIMIT 7", NONE, NONE, NONE, NONE, 0);
        pot.rule(LIMIT, 10);
        pot.rule(FORE, 7);
        pot.rule(CUT, 3);
        bestIs("whatever FORE and CUT are", 0, 200, 603, 10, 2);
        rules(1, 600);
        unchanged("12 best", before);
        // y is 690: CUTS 0, 50, .. 650 are GOOD; from an odd END on 33, 83, .. 683.
        oneLitreOfHeart();
        bestIs("of one litre", 0, 0, 600, 0, 14);
        pot.rule(END, 33);
        bestIs("from END 33 on", 0, 33, 600, 0, 14);
        pot.rule(END, 690);
        bestIs("from END 690 on", 0, 690, 600, 0, 1);
        pot.rule(END, 691);
        bestIs("of no litre", NONE, NONE, NONE, NONE, 0);
        bestEdges();
        due("12 best(-1)", pot.best(-1), OUTSIDE);
        due("12 best(5)", pot.best(5), OUTSIDE);
        due("12 best(MIN)", pot.best(MIN), OUTSIDE);
        due("12 best(MAX)", pot.best(MAX), OUTSIDE);
    }

    private void bestEdges() {
        // HEARTS without SPIRIT are GOOD, too: of two LITRES by FORE 0, of one by FORE 1.
        fresh();
        pot.wash(3, 0, 0, 0);
        rules(1, 600, 0);
        bestIs("without spirit", 0, 0, 0, 0, 2);
        // CUT 1000 is tried: y is 1000.
        pot.table(0, 1000);
        pot.rule(END, 1000);
        bestIs("by 1000 alone", 0, 1000, 0, 0, 2);
        // HEADY 50, 25, 13, 6, 3, 2, then none: with LIMIT 3 FORE must be 2 (24 by 9); by CUT 0 FORE 2 to 9,
        // by the other twenty only FORE 9; SPIRIT is 2000 by each of them.
        lateSpirit(99);
        pot.rule(LIMIT, 3);
        bestIs("the least FORE of equals", 2, 0, 2000, 2, 28);
        pot.rule(LIMIT, 4);
        bestIs("with LIMIT 4", 1, 0, 2000, 4, 29);
        pot.rule(LIMIT, 9);
        bestIs("with LIMIT 9", 0, 0, 2000, 9, 30);
        // The next RUN's, not the last one's: what is KEPT counts.
        fresh();
        pot.run();
        due("12 spirit with what is kept", pot.best(2) > 603 ? 1 : 0, 1);
    }

    private void promise13() {
        fresh();
        due("13 take()", pot.take(), 603);
        due("13 FORE", pot.count(10), 0);
        due("13 CUT", pot.count(11), 200);
        due("13 END stays", pot.count(12), 200);
        due("13 heart", pot.part(2, 1), 603);
        due("13 no run went", pot.count(0), 0);
        pot.rule(LIMIT, 9);
        due("13 take() with LIMIT 9", pot.take(), 243);
        due("13 FORE with LIMIT 9", pot.count(10), 1);
        due("13 CUT with LIMIT 9", pot.count(11), 200);
        pot.rule(LIMIT, 0);
        pot.rule(CUT, 555);
        List<Integer> before = snapshot();
        due("13 take() of none", pot.take(), STATE);
        unchanged("13 a take() of none", before);
        fresh();
        pot.wash(3, 0, 0, 0);
        rules(1, 600, 0);
        due("13 take() without spirit", pot.take(), 0);
        due("13 CUT without spirit", pot.count(11), 0);
    }

    private void promise14() {
        oneLitreOfHeart();
        List<Integer> before = snapshot();
        due("14 cask(1, 0)", pot.cask(1, 0), 1);
        due("14 cask(1, 1)", pot.cask(1, 1), 600);
        due("14 cask(300, 0)", pot.cask(300, 0), 300);
        due("14 cask(300, 1)", pot.cask(300, 1), 600);
        due("14 cask(301, 0)", pot.cask(301, 0), NONE);
        due("14 cask(301, 1)", pot.cask(301, 1), NONE);
        due("14 cask(999, 0)", pot.cask(999, 0), NONE);
        unchanged("14 cask", before);
        // Two LITRES a RUN, SPIRIT 360 and 243 (603 by 2 is 301): three LITRES need two RUNS.
        fresh();
        rules(0, 200);
        due("14 cask(2, 0)", pot.cask(2, 0), 1);
        due("14 cask(3, 0)", pot.cask(3, 0), 2);
        due("14 cask(3, 1)", pot.cask(3, 1), 301);
        caskCountsWhatIsKept();
        int[][] wrong = {{0, 0}, {1000, 0}, {-1, 0}, {MIN, 0}, {MAX, 0}, {1, -1}, {1, 2}, {1, MIN}, {1, MAX}};
        for (int[] w : wrong) {
            due("14 cask(" + w[0] + ", " + w[1] + ")", pot.cask(w[0], w[1]), OUTSIDE);
        }
        pot.rule(END, 1000);
        due("14 cask(1, 0) of nothing", pot.cask(1, 0), NONE);
        due("14 OUTSIDE ahead of NONE", pot.cask(1, 2), OUTSIDE);
    }

    private void caskCountsWhatIsKept() {
        fresh();
        pot.wash(12, 200, 30, 30);
        int wanted = 25;
        int told = pot.cask(wanted, 0);
        int strength = pot.cask(wanted, 1);
        int runs = 0;
        int litres = 0;
        int spirit = 0;
        while (litres < wanted && runs < 300) {
            spirit += pot.part(2, 1);
            litres += pot.run();
            runs++;
        }
        due("14 runs that fill it", told, runs);
        due("14 strength that comes", strength, litres == 0 ? 0 : spirit / litres);
    }

    private void fillBook() {
        oneLitreOfHeart();
        // SPIRIT of the HEARTS, and their STRENGTH: 200, 500, 0 (no LITRE), 350, 500.
        int[] spirit = {100, 250, 0, 175, 250};
        pot.rule(SLOW, 1);
        for (int i = 0; i < spirit.length; i++) {
            pot.rule(END, spirit[i] == 0 ? 1000 : 0);
            pot.wash(2, spirit[i], 7 + i, 80 + i);
            pot.run();
        }
    }

    private void promise15() {
        fillBook();
        liquidDue("15 page 0", page(0), 1, 200, 4, 44, 200, 48);
        liquidDue("15 page 1", page(1), 1, 500, 5, 28, 500, 33);
        liquidDue("15 page 2", page(2), 0, 0, 0, 0, 0, 0);
        liquidDue("15 page 3", page(3), 1, 350, 6, 36, 350, 42);
        liquidDue("15 page 4", page(4), 1, 500, 6, 29, 500, 35);
        due("15 page(5, 0)", pot.page(5, 0), UNKNOWN);
        due("15 page(-1, 0)", pot.page(-1, 0), UNKNOWN);
        due("15 page(5, 6)", pot.page(5, 6), UNKNOWN);
        due("15 page(MIN, MIN)", pot.page(MIN, MIN), UNKNOWN);
        due("15 page(MAX, 0)", pot.page(MAX, 0), UNKNOWN);
        due("15 page(0, 6)", pot.page(0, 6), OUTSIDE);
        due("15 page(0, -1)", pot.page(0, -1), OUTSIDE);
        due("15 page(4, MAX)", pot.page(4, MAX), OUTSIDE);
        due("15 page of a new book", new Pot().page(0, 0), UNKNOWN);
    }

    private void promise16() {
        fillBook();
        due("16 weed(0)", pot.weed(0), 5);
        due("16 weed(1)", pot.weed(1), 4);
        due("16 weed(200)", pot.weed(200), 4);
        due("16 first of 4", pot.page(0, 1), 200);
        due("16 weed(201)", pot.weed(201), 3);
        liquidDue("16 page 1 is 0 now", page(0), 1, 500, 5, 28, 500, 33);
        liquidDue("16 page 3 is 1 now", page(1), 1, 350, 6, 36, 350, 42);
        liquidDue("16 page 4 is 2 now", page(2), 1, 500, 6, 29, 500, 35);
        due("16 no page 3", pot.page(3, 1), UNKNOWN);
        due("16 runs stay", pot.count(0), 5);
        List<Integer> before = snapshot();
        due("16 weed(-1)", pot.weed(-1), OUTSIDE);
        due("16 weed(1001)", pot.weed(1001), OUTSIDE);
        due("16 weed(MIN)", pot.weed(MIN), OUTSIDE);
        due("16 weed(MAX)", pot.weed(MAX), OUTSIDE);
        unchanged("16 a wrong weed", before);
        pot.rule(END, 0);
        pot.wash(2, 50, 0, 0);
        pot.run();
        due("16 a new page is behind", pot.page(3, 1), 100);
        due("16 weed(400)", pot.weed(400), 2);
        due("16 weed(1000)", pot.weed(1000), 0);
        due("16 pages", pot.count(1), 0);
        due("16 weed of none", pot.weed(1000), 0);
    }

    private void changeAll() {
        pot.wash(3, 33, 3, 3);
        for (int place = 0; place <= 10; place++) {
            pot.table(place, 500 + place);
        }
        rules(4, 444, 4, 4, 4, 4);
        pot.run();
        pot.run();
        pot.weed(1);
    }

    private void promise17And18() {
        fresh();
        pot.wash(20, 200, 50, 60);
        pot.run();
        pot.run();
        due("17 image(0)", pot.image(0), 1);
        due("17 images", pot.count(2), 1);
        List<Integer> first = snapshot();
        changeAll();
        due("18 restore(1) of none", pot.restore(1), STATE);
        due("18 restore(0)", pot.restore(0), 1);
        unchanged("18 restore(0)", first);
        changeAll();
        due("17 image(1)", pot.image(1), 1);
        due("17 both images", pot.count(2), 3);
        List<Integer> second = snapshot();
        pot.pour();
        due("18 restore(0) again", pot.restore(0), 1);
        check.holds("18 images stay told", pot.count(2) == 3);
        due("18 runs", pot.count(0), 2);
        due("18 restore(1)", pot.restore(1), 1);
        unchanged("18 restore(1)", second);
        due("17 image(0) in place", pot.image(0), 1);
        pot.run();
        due("18 restore(0) of what is there now", pot.restore(0), 1);
        unchanged("18 restore(0) of what is there now", second);
        wrongImages(second);
        fresh();
        due("17 image(1) alone", pot.image(1), 1);
        due("17 images of 1 alone", pot.count(2), 2);
        due("18 restore(0) beside it", pot.restore(0), STATE);
        pot.run();
        due("18 restore(1) of a new pot", pot.restore(1), 1);
        due("18 no page of a new pot", pot.count(1), 0);
        due("18 no run of a new pot", pot.count(0), 0);
        due("18 nothing kept of a new pot", pot.kept(0), 0);
    }

    private void wrongImages(List<Integer> before) {
        int[] wrong = {-1, 2, 32, MIN, MAX};
        for (int k : wrong) {
            due("17 image(" + k + ")", pot.image(k), OUTSIDE);
            due("18 restore(" + k + ")", pot.restore(k), OUTSIDE);
        }
        unchanged("17 a wrong image", before);
    }

    private void promise19() {
        fresh();
        pot.run();
        pot.run();
        pot.weed(1000);
        pot.run();
        due("19 runs", pot.count(0), 3);
        due("19 pages", pot.count(1), 1);
        pot.image(1);
        due("19 images", pot.count(2), 2);
        pot.wash(4, 5, 6, 7);
        for (int i = 0; i < 4; i++) {
            due("19 wash " + i, pot.count(3 + i), 4 + i);
        }
        rules(1, 2, 3, 4, 5, 6);
        for (int i = 0; i < 6; i++) {
            due("19 rule " + i, pot.count(10 + i), 1 + i);
        }
        for (int i = 0; i <= 10; i++) {
            pot.table(i, 70 + i);
            due("19 table " + i, pot.count(20 + i), 70 + i);
        }
        int[] wrong = {-1, 7, 8, 9, 16, 17, 18, 19, 31, 32, MIN, MAX};
        for (int w : wrong) {
            due("19 count(" + w + ")", pot.count(w), OUTSIDE);
        }
    }

    /** What the 513th call answers is free, but LANGUAGE.md lets no call throw: OILY grows past an int here. */
    private void farBeyondTheLimit() {
        PotCuts pot = new PotCuts();
        for (int place = 0; place <= 10; place++) {
            pot.table(place, 0);
        }
        pot.wash(30, 300, 99, 99);
        int[] rules = {9, 1000, 0, 9, 1, 99};
        for (int i = 0; i < rules.length; i++) {
            pot.rule(i, rules[i]);
        }
        for (int i = 0; i < 60000; i++) {
            pot.run();
        }
        pot.settled(3);
        pot.best(2);
        pot.cask(999, 1);
        pot.take();
        check.holds("far beyond the limit nothing is thrown", pot.count(0) == 60000);
    }

    public static void main(String[] args) {
        Check check = new Check("PromiseTest");
        PromiseTest test = new PromiseTest(check);
        test.promise1();
        test.promise2();
        test.promise3();
        test.promise4();
        test.promise5();
        test.promise6();
        test.promise7();
        test.promise8();
        test.promise9();
        test.promise10();
        test.promise11();
        test.promise12();
        test.promise13();
        test.promise14();
        test.promise15();
        test.promise16();
        test.promise17And18();
        test.promise19();
        test.fresh();
        test.farBeyondTheLimit();
        check.end();
    }
}
