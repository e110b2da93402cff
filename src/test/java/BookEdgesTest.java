import java.io.IOException;
import java.util.List;

/** Boundary cases of THE BOOK and of promises 15 and 16: page, weed. */
public final class BookEdgesTest extends Edges {
    private static final String BOOK =
            "THE BOOK has up to 12 PAGES, numbered from 0 on, the eldest first (none at first)";
    private static final String NEXT =
            "a RUN that goes gets one, behind all others; if there are 12, the eldest goes ahead of that.";
    private static final String PAGE = "Of HEART of the RUN on a PAGE: what as in part(). UNKNOWN: the PAGE; OUTSIDE.";
    private static final String WEED = "All PAGES go of which HEART has STRENGTH below v, 0 to 1000:"
            + " how many are left (in their order). OUTSIDE.";

    private BookEdgesTest(Check check) throws IOException {
        super(check);
    }

    /** A RUN whose HEART is one LITRE of this STRENGTH, 1 to 600 (there are 600 of SPIRIT). */
    private void runOfStrength(int y) {
        pot.wash(2, 300, 0, 0);
        pot.table(3, y);
        rules(0, 0, 0);
        due("litres of heart", pot.run(), 1);
    }

    /** The same with 601 to 1000: of 1000 of SPIRIT so little is left that the other LITRES are TAILS. */
    private void runOfMoreStrength(int y) {
        pot.wash(4, 250, 0, 0);
        pot.table(2, y);
        pot.table(3, y);
        rules(0, y, 0);
        due("litres of strong heart", pot.run(), 1);
        pot.pour();
    }

    private void runWithoutHeart() {
        pot.rule(END, 1000);
        pot.wash(1, 0, 0, 0);
        due("litres of no heart", pot.run(), 0);
    }

    /** So many RUNS, of STRENGTH 100, 101 and so on. */
    private void runs(int n) {
        for (int i = 0; i < n; i++) {
            runOfStrength(100 + i);
        }
    }

    private void book() {
        edge(BOOK, "none at first", () -> {
            due("pages", pot.count(1), 0);
            due("page(0, 0)", pot.page(0, 0), UNKNOWN);
        });
        edge(BOOK, "one", () -> {
            runs(1);
            due("pages", pot.count(1), 1);
            due("page(0, 4)", pot.page(0, STRENGTH), 100);
            due("page(1, 4)", pot.page(1, STRENGTH), UNKNOWN);
        });
        int[][] cases = {{11, 11, 100, 110}, {12, 12, 100, 111}, {13, 12, 101, 112}, {14, 12, 102, 113},
            {25, 12, 113, 124}};
        for (int[] c : cases) {
            edge(NEXT, c[0] + " RUNS", () -> {
                runs(c[0]);
                due("pages", pot.count(1), c[1]);
                due("runs", pot.count(0), c[0]);
                for (int page = 0; page < c[1]; page++) {
                    due("page " + page, pot.page(page, STRENGTH), c[2] + page);
                }
                due("the newest", pot.page(c[1] - 1, STRENGTH), c[3]);
                due("none behind it", pot.page(c[1], STRENGTH), UNKNOWN);
            });
        }
        edge(NEXT, "RUNS that have no HEART get one, and push out the eldest", () -> {
            runs(12);
            runWithoutHeart();
            due("pages", pot.count(1), 12);
            due("the eldest", pot.page(0, STRENGTH), 101);
            liquidDue("the newest", page(11), 0, 0, 0, 0, 0, 0);
        });
        edge(NEXT, "12, some are weeded, and RUNS follow till there are 12 and 13", () -> {
            runs(12);
            due("weed(102)", pot.weed(102), 10);
            runOfStrength(500);
            runOfStrength(501);
            due("pages", pot.count(1), 12);
            due("the eldest stays", pot.page(0, STRENGTH), 102);
            due("the newest", pot.page(11, STRENGTH), 501);
            runOfStrength(502);
            due("pages still", pot.count(1), 12);
            due("the eldest goes", pot.page(0, STRENGTH), 103);
            due("the newest then", pot.page(11, STRENGTH), 502);
        });
    }

    private void page() {
        edge(PAGE, "least and most of what", () -> {
            rules(0, 200);
            pot.run();
            liquidDue("page", page(0), 2, 603, 16, 5, 301, 10);
        });
        edge(PAGE, "it stays as it was, whatever is told later", () -> {
            rules(0, 200);
            pot.run();
            pot.wash(1, 0, 0, 0);
            rules(9, 1000, 1000, 1, 99, 0);
            places(0, 10, 0);
            pot.pour();
            liquidDue("page", page(0), 2, 603, 16, 5, 301, 10);
        });
        edge(PAGE, "HEART has no LITRE", () -> {
            pot.run();
            liquidDue("page", page(0), 0, 0, 0, 0, 0, 0);
        });
        int[] noPages = {-1, 2, 11, 12, MIN, MAX};
        for (int page : noPages) {
            edge(PAGE, "no such PAGE of two: " + page, () -> {
                runs(2);
                due("page(page, 0)", pot.page(page, 0), UNKNOWN);
                due("page(page, 5)", pot.page(page, 5), UNKNOWN);
                due("page(page, -1)", pot.page(page, -1), UNKNOWN);
                due("page(page, 6)", pot.page(page, 6), UNKNOWN);
            });
        }
        int[] full = {-1, 12};
        for (int page : full) {
            edge(PAGE, "no such PAGE of twelve: " + page, () -> {
                runs(13);
                due("page(page, 0)", pot.page(page, 0), UNKNOWN);
            });
        }
        int[] wrong = {-1, 6, MIN, MAX};
        for (int what : wrong) {
            edge(PAGE, "outside: " + what, () -> {
                runs(2);
                due("page(0, what)", pot.page(0, what), OUTSIDE);
                due("page(1, what)", pot.page(1, what), OUTSIDE);
                due("page(2, what)", pot.page(2, what), UNKNOWN);
            });
        }
    }

    private void weed() {
        edge(WEED, "v is 0: none goes, not even without a HEART", () -> {
            runWithoutHeart();
            runOfStrength(1);
            List<Integer> before = snapshot();
            due("weed(0)", pot.weed(0), 2);
            unchanged("it", before);
        });
        edge(WEED, "v is 1: those without STRENGTH go", () -> {
            runWithoutHeart();
            runOfStrength(1);
            due("weed(1)", pot.weed(1), 1);
            due("left", pot.page(0, STRENGTH), 1);
        });
        edge(WEED, "STRENGTH of v stays, of one less goes", () -> {
            runOfStrength(499);
            runOfStrength(500);
            runOfStrength(501);
            due("weed(500)", pot.weed(500), 2);
            due("first left", pot.page(0, STRENGTH), 500);
            due("second left", pot.page(1, STRENGTH), 501);
            due("third left", pot.page(2, STRENGTH), UNKNOWN);
        });
        edge(WEED, "v is 1000", () -> {
            runOfMoreStrength(999);
            runOfMoreStrength(1000);
            due("weed(1000)", pot.weed(1000), 1);
            due("left", pot.page(0, STRENGTH), 1000);
        });
        edge(WEED, "STRENGTH is cut: 603 by 2", () -> {
            rules(0, 200);
            pot.run();
            due("weed(301)", pot.weed(301), 1);
            due("weed(302)", pot.weed(302), 0);
        });
        edge(WEED, "there are none", () -> {
            due("weed(0)", pot.weed(0), 0);
            due("weed(1000)", pot.weed(1000), 0);
        });
        edge(WEED, "all go, and a RUN gets PAGE 0 then", () -> {
            runs(12);
            due("weed(1000)", pot.weed(1000), 0);
            due("page(0, 0)", pot.page(0, 0), UNKNOWN);
            due("runs stay", pot.count(0), 12);
            runOfStrength(77);
            due("pages", pot.count(1), 1);
            due("page 0", pot.page(0, STRENGTH), 77);
        });
        edge(WEED, "in their order: the first, one between, the last of twelve go", () -> {
            int[] strengths = {10, 300, 200, 20, 500, 400, 30, 600, 590, 580, 570, 40};
            for (int s : strengths) {
                runOfStrength(s);
            }
            int[] left = {300, 200, 500, 400, 600, 590, 580, 570};
            due("weed(41)", pot.weed(41), left.length);
            for (int page = 0; page < left.length; page++) {
                due("page " + page, pot.page(page, STRENGTH), left[page]);
            }
            due("pages", pot.count(1), left.length);
        });
        edge(WEED, "all of a PAGE moves with it", () -> {
            runWithoutHeart();
            pot.wash(12, 80, 20, 40);
            rules(0, 200, 200);
            pot.run();
            due("weed(1)", pot.weed(1), 1);
            liquidDue("page", page(0), 2, 603, 16, 5, 301, 10);
        });
        int[] wrong = {-1, 1001, MIN, MAX};
        for (int v : wrong) {
            edge(WEED, "outside: " + v, () -> {
                runs(2);
                List<Integer> before = snapshot();
                due("weed", pot.weed(v), OUTSIDE);
                unchanged("it", before);
            });
        }
        edge(WEED, "outside of a book that has none", () -> {
            due("weed(-1)", pot.weed(-1), OUTSIDE);
            due("weed(1001)", pot.weed(1001), OUTSIDE);
        });
    }

    public static void main(String[] args) throws IOException {
        BookEdgesTest test = new BookEdgesTest(new Check("BookEdgesTest"));
        test.book();
        test.page();
        test.weed();
        test.finish();
    }
}
