import java.io.IOException;
import java.util.ArrayList;
import java.util.LinkedHashMap;
import java.util.List;
import java.util.Map;
import java.util.function.ToIntFunction;

/** Boundary cases that the document names for all calls: refusals, their order, how long an object is used. */
public final class TermsEdgesTest extends Edges {
    private static final String ORDER =
            "Calls that are refused answer the first that fits, in the order in which they are told with the call";
    private static final String LAST = "NONE -6 is answered only where no refusal fits.";
    private static final String NOTHING = "What is refused changes nothing.";
    private static final String NOW = "All that is told is as things are when it is asked.";
    private static final String USED = "An object is used for at most 512 calls after it has been made";

    private TermsEdgesTest(Check check) throws IOException {
        super(check);
    }

    private void constants() {
        String words = "`UNKNOWN = -1, OUTSIDE = -2, STATE = -3, FULL = -4, NO = -5, NONE = -6`";
        edge(words, "each of them", () -> {
            due("UNKNOWN", PotCuts.UNKNOWN, -1);
            due("OUTSIDE", PotCuts.OUTSIDE, -2);
            due("STATE", PotCuts.STATE, -3);
            due("FULL", PotCuts.FULL, -4);
            due("NO", PotCuts.NO, -5);
            due("NONE", PotCuts.NONE, -6);
        });
    }

    private void order() {
        edge(ORDER, "UNKNOWN ahead of OUTSIDE: table", () -> {
            due("table(-1, -1)", pot.table(-1, -1), UNKNOWN);
            due("table(11, 1001)", pot.table(11, 1001), UNKNOWN);
        });
        edge(ORDER, "UNKNOWN ahead of OUTSIDE: litre", () -> {
            due("litre(-2, -1)", pot.litre(-2, -1), UNKNOWN);
            due("litre(2, 5)", pot.litre(2, 5), UNKNOWN);
        });
        edge(ORDER, "UNKNOWN ahead of OUTSIDE: page", () -> {
            due("page(-1, -1)", pot.page(-1, -1), UNKNOWN);
            due("page(0, 6)", pot.page(0, 6), UNKNOWN);
        });
        edge(ORDER, "OUTSIDE ahead of STATE: restore", () -> {
            due("restore(-1)", pot.restore(-1), OUTSIDE);
            due("restore(2)", pot.restore(2), OUTSIDE);
        });
        edge(LAST, "settled", () -> {
            places(0, 10, 0);
            pot.wash(30, 300, 99, 99);
            rules(9, 1000, 0, 9, 1);
            due("settled(0)", pot.settled(0), NONE);
            due("settled(-1)", pot.settled(-1), OUTSIDE);
            due("settled(4)", pot.settled(4), OUTSIDE);
        });
        edge(LAST, "best", () -> {
            pot.rule(LIMIT, 0);
            due("best(0)", pot.best(0), NONE);
            due("best(-1)", pot.best(-1), OUTSIDE);
            due("best(5)", pot.best(5), OUTSIDE);
        });
        edge(LAST, "take: STATE, not NONE", () -> {
            pot.rule(LIMIT, 0);
            due("take()", pot.take(), STATE);
        });
        edge(LAST, "cask", () -> {
            pot.rule(END, 1000);
            due("cask(999, 1)", pot.cask(999, 1), NONE);
            due("cask(1000, 1)", pot.cask(1000, 1), OUTSIDE);
            due("cask(0, 1)", pot.cask(0, 1), OUTSIDE);
            due("cask(999, 2)", pot.cask(999, 2), OUTSIDE);
        });
    }

    /** Two IMAGES, PAGES, something KEPT, and no GOOD cuts. */
    private void busyPot() {
        fresh();
        pot.wash(20, 200, 50, 60);
        pot.run();
        pot.image(0);
        pot.rule(CUT, 500);
        pot.table(4, 700);
        pot.run();
        pot.image(1);
        pot.wash(15, 100, 90, 80);
        pot.rule(LIMIT, 0);
        pot.run();
    }

    /** All that is held, IMAGES too: what each of them brings back when it is restored. */
    private List<Integer> allWithImages() {
        List<Integer> all = new ArrayList<>(snapshot());
        pot.restore(0);
        all.addAll(snapshot());
        pot.restore(1);
        all.addAll(snapshot());
        return all;
    }

    private static Map<String, ToIntFunction<Pot>> refusedCalls() {
        Map<String, ToIntFunction<Pot>> calls = new LinkedHashMap<>();
        calls.put("wash(0, 1, 1, 1)", p -> p.wash(0, 1, 1, 1));
        calls.put("wash(1, 301, 1, 1)", p -> p.wash(1, 301, 1, 1));
        calls.put("wash(1, 1, 100, 1)", p -> p.wash(1, 1, 100, 1));
        calls.put("wash(1, 1, 1, 100)", p -> p.wash(1, 1, 1, 100));
        calls.put("table(11, 1)", p -> p.table(11, 1));
        calls.put("table(-1, 1)", p -> p.table(-1, 1));
        calls.put("table(1, 1001)", p -> p.table(1, 1001));
        calls.put("rule(6, 1)", p -> p.rule(6, 1));
        calls.put("rule(-1, 1)", p -> p.rule(-1, 1));
        calls.put("rule(0, 10)", p -> p.rule(0, 10));
        calls.put("over(1001)", p -> p.over(1001));
        calls.put("litre(41, 0)", p -> p.litre(41, 0));
        calls.put("litre(0, 5)", p -> p.litre(0, 5));
        calls.put("part(5, 0)", p -> p.part(5, 0));
        calls.put("part(0, 6)", p -> p.part(0, 6));
        calls.put("kept(6)", p -> p.kept(6));
        calls.put("settled(4)", p -> p.settled(4));
        calls.put("best(5)", p -> p.best(5));
        calls.put("take()", p -> p.take());
        calls.put("cask(1000, 0)", p -> p.cask(1000, 0));
        calls.put("cask(1, 2)", p -> p.cask(1, 2));
        calls.put("page(3, 0)", p -> p.page(3, 0));
        calls.put("page(0, 6)", p -> p.page(0, 6));
        calls.put("weed(1001)", p -> p.weed(1001));
        calls.put("weed(-1)", p -> p.weed(-1));
        calls.put("image(2)", p -> p.image(2));
        calls.put("image(-1)", p -> p.image(-1));
        calls.put("restore(2)", p -> p.restore(2));
        calls.put("restore(-1)", p -> p.restore(-1));
        calls.put("count(31)", p -> p.count(31));
        return calls;
    }

    private void refusalsChangeNothing() {
        busyPot();
        List<Integer> untouched = allWithImages();
        refusedCalls().forEach((name, call) -> edge(NOTHING, name, () -> {
            busyPot();
            int answer = call.applyAsInt(pot);
            check.holds(name + " is refused: " + answer, answer <= UNKNOWN && answer >= STATE);
            check.holds("all is as it was", untouched.equals(allWithImages()));
        }));
        edge(NOTHING, "restore(1) with nothing kept in it", () -> {
            pot.wash(20, 200, 50, 60);
            pot.run();
            List<Integer> before = snapshot();
            due("restore(1)", pot.restore(1), STATE);
            unchanged("it", before);
        });
        edge(NOTHING, "nor does a call that only asks", () -> {
            busyPot();
            askEverything();
            check.holds("all is as it was", untouched.equals(allWithImages()));
        });
    }

    private void askEverything() {
        pot.over(555);
        pot.litre(-1, 0);
        pot.litre(0, 3);
        pot.part(HEART, TAINT);
        pot.kept(SPIRIT);
        pot.settled(3);
        pot.best(4);
        pot.best(0);
        pot.cask(999, 1);
        pot.page(0, STRENGTH);
        pot.count(2);
    }

    /** What is asked is asked ahead of the change, too, so that nothing kept from then can answer. */
    private void change(String name, ToIntFunction<Pot> call, int... told) {
        edge(NOW, "behind " + name, () -> {
            pot.image(0);
            rules(0, 200);
            toldIs("ahead of it", 2, 360, 2, 0, 1, 2, 603, 1);
            call.applyAsInt(pot);
            toldIs("behind it", told);
        });
    }

    /** LITRES of HEART, SPIRIT of LITRE 0, how many GOOD cuts; AHEAD, ROUND, LITRES, SPIRIT of SETTLED; a cask of 1. */
    private void toldIs(String when, int... told) {
        due("heart " + when, pot.part(HEART, LITRES), told[0]);
        due("litre " + when, pot.litre(0, 1), told[1]);
        due("good " + when, pot.best(4), told[2]);
        for (int what = 0; what <= 3; what++) {
            due("settled " + what + " " + when, pot.settled(what), told[3 + what]);
        }
        due("cask " + when, pot.cask(1, 0), told[7]);
    }

    private void asThingsAre() {
        change("wash", p -> p.wash(1, 300, 0, 0), 0, UNKNOWN, 0, 0, 1, 0, 0, NONE);
        change("table", p -> p.table(1, 0), 0, UNKNOWN, 0, 0, 1, 0, 0, NONE);
        change("rule END", p -> p.rule(END, 300), 1, 360, 0, 0, 1, 1, 360, 1);
        change("rule CUT", p -> p.rule(CUT, 300), 1, 360, 2, 3, 2, 3, 1210, 1);
        change("rule LIMIT", p -> p.rule(LIMIT, 0), 2, 360, 0, 0, 1, 2, 603, 1);
        change("run", p -> p.run(), 2, 360, 2, 0, 1, 2, 603, 1);
        change("restore", p -> p.restore(0), 0, 360, 2, 23, 1, 1, 607, 8);
        edge(NOW, "behind run and pour: what is KEPT counts, and counts no more", () -> {
            pot.run();
            due("litre", pot.litre(0, 0), 466);
            due("charge", pot.part(CHARGE, LITRES), 14);
            int spirit = pot.best(2);
            pot.pour();
            due("litre", pot.litre(0, 0), 360);
            due("charge", pot.part(CHARGE, LITRES), 12);
            check.holds("best was other", spirit != pot.best(2));
        });
    }

    private void lastCalls() {
        edge(USED, "the 512th call is answered as the first: count", () -> {
            for (int i = 1; i <= 511; i++) {
                pot.run();
            }
            due("count(0)", pot.count(0), 511);
            due("calls", pot.calls(), 512);
        });
        edge(USED, "the 512th call is answered as the first: run", () -> {
            oneLitreOfHeart();
            while (pot.calls() < 511) {
                pot.run();
            }
            due("run()", pot.run(), 1);
            due("calls", pot.calls(), 512);
        });
        edge(USED, "what is KEPT grows as long as it can", () -> {
            // Everything OILY goes over with the first LITRE and is KEPT: 99 more with every RUN.
            places(0, 10, 0);
            pot.wash(30, 300, 99, 99);
            rules(9, 1000, 0, 1, 1, 0);
            int runs = 0;
            while (pot.calls() < 500) {
                pot.run();
                runs++;
            }
            due("kept litres", pot.kept(LITRES), 40);
            due("kept spirit", pot.kept(SPIRIT), 0);
            due("kept oily", pot.kept(OILY), 99 * runs);
            due("charge oily", pot.part(CHARGE, OILY), 99 * runs + 99);
            due("litre oily", pot.litre(0, 3), 99 * runs + 99);
            due("settled", pot.settled(0), NONE);
            due("cask", pot.cask(999, 0), NONE);
            due("best", pot.best(4), 0);
            due("take", pot.take(), STATE);
        });
        edge(USED, "300 RUNS are looked ahead from the last calls, too", () -> {
            oneLitreOfHeart();
            while (pot.calls() < 508) {
                pot.run();
            }
            due("cask(300, 0)", pot.cask(300, 0), 300);
            due("cask(301, 0)", pot.cask(301, 0), NONE);
            due("settled(1)", pot.settled(1), 1);
            due("runs", pot.count(0), 504);
        });
    }

    public static void main(String[] args) throws IOException {
        TermsEdgesTest test = new TermsEdgesTest(new Check("TermsEdgesTest"));
        test.constants();
        test.order();
        test.refusalsChangeNothing();
        test.asThingsAre();
        test.lastCalls();
        test.finish();
    }
}
