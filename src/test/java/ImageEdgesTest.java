import java.io.IOException;
import java.util.List;

/** Boundary cases of promises 17 to 19: image, restore, count. */
public final class ImageEdgesTest extends Edges {
    private static final String IMAGE =
            "All but IMAGES is kept in an IMAGE (0, 1), in place of what was kept there: 1. OUTSIDE.";
    private static final String RESTORE = "All but IMAGES is as it was when it was kept; the IMAGE stays: 1."
            + " OUTSIDE; STATE: nothing was kept in it.";
    private static final String COUNT = "RUNS that went (0), PAGES (1), which IMAGES are kept, a set: bits 0, 1 (2),"
            + " of WASH LITRES, SPIRIT a LITRE, HEADY, OILY (3 to 6), RULES (10 to 15),"
            + " THE TABLE at a PLACE (20 to 30). OUTSIDE.";

    private ImageEdgesTest(Check check) throws IOException {
        super(check);
    }

    /** Everything that an IMAGE keeps is other than it was, by what v is. */
    private void changeAll(int v) {
        pot.wash(10 + v, 200 + v, 30 + v, 40 + v);
        for (int place = 0; place <= 10; place++) {
            pot.table(place, 500 + 10 * v + place);
        }
        rules(v, 700 + v, 300 + v, v, 20 + v, 50 + v);
        pot.run();
    }

    private void image() {
        edge(IMAGE, "an IMAGE of a new pot", () -> {
            due("image(0)", pot.image(0), 1);
            List<Integer> first = snapshot();
            changeAll(3);
            due("restore(0)", pot.restore(0), 1);
            unchanged("it", first);
        });
        edge(IMAGE, "in place of what was kept there", () -> {
            changeAll(1);
            pot.image(1);
            changeAll(2);
            pot.image(1);
            List<Integer> second = snapshot();
            changeAll(3);
            due("restore(1)", pot.restore(1), 1);
            unchanged("it", second);
        });
        edge(IMAGE, "the other IMAGE stays as it is", () -> {
            changeAll(1);
            pot.image(0);
            pot.image(1);
            List<Integer> first = snapshot();
            changeAll(2);
            pot.image(1);
            List<Integer> second = snapshot();
            due("restore(0)", pot.restore(0), 1);
            unchanged("restore(0)", first);
            due("restore(1)", pot.restore(1), 1);
            unchanged("restore(1)", second);
        });
        int[] wrong = {-1, 2, 32, 33, MIN, MAX};
        for (int k : wrong) {
            edge(IMAGE, "outside: " + k, () -> {
                List<Integer> before = snapshot();
                due("image(k)", pot.image(k), OUTSIDE);
                unchanged("it", before);
                due("restore(0)", pot.restore(0), STATE);
                due("restore(1)", pot.restore(1), STATE);
            });
        }
    }

    private void restore() {
        for (int k = 0; k <= 1; k++) {
            int at = k;
            edge(RESTORE, "nothing was kept in IMAGE " + at, () -> {
                changeAll(2);
                pot.image(1 - at);
                List<Integer> before = snapshot();
                due("restore", pot.restore(at), STATE);
                unchanged("it", before);
            });
        }
        int[] wrong = {-1, 2, 32, 33, MIN, MAX};
        for (int k : wrong) {
            edge(RESTORE, "outside, ahead of STATE: " + k, () -> {
                due("restore with no image", pot.restore(k), OUTSIDE);
                pot.image(0);
                pot.image(1);
                changeAll(2);
                List<Integer> before = snapshot();
                due("restore with images", pot.restore(k), OUTSIDE);
                unchanged("it", before);
            });
        }
        edge(RESTORE, "the IMAGE stays: again and again", () -> {
            changeAll(1);
            pot.image(0);
            List<Integer> kept = snapshot();
            for (int v = 2; v <= 4; v++) {
                changeAll(v);
                due("restore(0)", pot.restore(0), 1);
                unchanged("restore " + v, kept);
            }
        });
        edge(RESTORE, "all but IMAGES: one that was kept later stays", () -> {
            pot.image(0);
            changeAll(1);
            pot.image(1);
            List<Integer> later = snapshot();
            due("restore(0)", pot.restore(0), 1);
            due("images", pot.count(2), 3);
            due("restore(1)", pot.restore(1), 1);
            unchanged("restore(1)", later);
        });
        edge(RESTORE, "what is done behind it does not reach the IMAGE", () -> {
            changeAll(1);
            pot.image(0);
            List<Integer> kept = snapshot();
            pot.restore(0);
            changeAll(2);
            pot.weed(1000);
            pot.pour();
            pot.restore(0);
            unchanged("it", kept);
        });
        restoredBooks();
    }

    /** One LITRE of HEART a RUN, of SPIRIT 2, 4, 6 and so on. */
    private void runs(int n) {
        rules(0, 0, 0);
        for (int i = 1; i <= n; i++) {
            pot.wash(2, i, 0, 0);
            pot.run();
        }
    }

    private void restoredBooks() {
        edge(RESTORE, "an empty book in place of a full one, and back", () -> {
            pot.image(0);
            runs(13);
            pot.image(1);
            List<Integer> full = snapshot();
            pot.restore(0);
            due("pages of none", pot.count(1), 0);
            due("page(0, 1) of none", pot.page(0, SPIRIT), UNKNOWN);
            due("runs of none", pot.count(0), 0);
            pot.restore(1);
            unchanged("restore(1)", full);
            due("the eldest", pot.page(0, SPIRIT), 4);
            due("the newest", pot.page(11, SPIRIT), 26);
        });
        edge(RESTORE, "PAGES that others have taken the place of", () -> {
            rules(0, 200);
            pot.run();
            pot.wash(12, 100, 50, 60);
            pot.run();
            pot.image(0);
            List<Integer> before = snapshot();
            pot.weed(1000);
            pot.wash(20, 200, 90, 90);
            pot.run();
            pot.run();
            pot.run();
            pot.restore(0);
            unchanged("it", before);
            liquidDue("page 0", page(0), 2, 603, 16, 5, 301, 10);
        });
        edge(RESTORE, "a book of 12 goes on as one of 12", () -> {
            runs(12);
            pot.image(0);
            pot.weed(1000);
            pot.restore(0);
            runs(1);
            due("pages", pot.count(1), 12);
            due("the eldest", pot.page(0, SPIRIT), 4);
            due("the newest", pot.page(11, SPIRIT), 2);
            due("runs", pot.count(0), 13);
        });
        edge(RESTORE, "what is KEPT, and nothing KEPT", () -> {
            pot.image(0);
            pot.run();
            pot.image(1);
            pot.restore(0);
            liquidDue("kept of none", kept(), 0, 0, 0, 0, 0, 0);
            pot.restore(1);
            liquidDue("kept", kept(), 2, 603, 16, 5, 301, 10);
        });
        edge(RESTORE, "RUNS that went are as they were, too", () -> {
            pot.run();
            pot.image(0);
            pot.run();
            pot.run();
            pot.restore(0);
            due("runs", pot.count(0), 1);
            pot.run();
            due("runs and one", pot.count(0), 2);
        });
    }

    private void count() {
        edge(COUNT, "least and most of each kind, each told apart", () -> {
            pot.wash(5, 6, 7, 8);
            rules(9, 11, 12, 3, 14, 15);
            for (int place = 0; place <= 10; place++) {
                pot.table(place, 100 + place);
            }
            due("count(3)", pot.count(3), 5);
            due("count(4)", pot.count(4), 6);
            due("count(5)", pot.count(5), 7);
            due("count(6)", pot.count(6), 8);
            int[] told = {9, 11, 12, 3, 14, 15};
            for (int what = 10; what <= 15; what++) {
                due("count(" + what + ")", pot.count(what), told[what - 10]);
            }
            for (int what = 20; what <= 30; what++) {
                due("count(" + what + ")", pot.count(what), 80 + what);
            }
        });
        edge(COUNT, "RUNS go on where PAGES do not", () -> {
            for (int i = 1; i <= 14; i++) {
                pot.run();
                due("runs", pot.count(0), i);
                due("pages", pot.count(1), Math.min(i, 12));
            }
            pot.weed(1000);
            due("runs stay", pot.count(0), 14);
            due("no pages", pot.count(1), 0);
        });
        edge(COUNT, "the set of IMAGES: none, 0, both", () -> {
            due("none", pot.count(2), 0);
            pot.image(0);
            due("0", pot.count(2), 1);
            pot.image(0);
            due("0 again", pot.count(2), 1);
            pot.image(1);
            due("both", pot.count(2), 3);
        });
        edge(COUNT, "the set of IMAGES: 1 alone", () -> {
            pot.image(1);
            due("1", pot.count(2), 2);
            pot.restore(1);
            due("1 is restored", pot.count(2), 2);
        });
        int[] wrong = {-1, 7, 8, 9, 16, 17, 18, 19, 31, 32, MIN, MAX};
        for (int what : wrong) {
            edge(COUNT, "outside: " + what, () -> due("count", pot.count(what), OUTSIDE));
        }
    }

    public static void main(String[] args) throws IOException {
        ImageEdgesTest test = new ImageEdgesTest(new Check("ImageEdgesTest"));
        test.image();
        test.restore();
        test.count();
        test.finish();
    }
}
