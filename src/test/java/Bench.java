import java.util.ArrayList;
import java.util.List;

/** What the tests by hand share: a pot to work on, and looks at all that it tells. */
class Bench {
    static final int UNKNOWN = -1, OUTSIDE = -2, STATE = -3, NONE = -6;
    static final int MIN = Integer.MIN_VALUE, MAX = Integer.MAX_VALUE;
    static final int FORE = 0, CUT = 1, END = 2, FAST = 3, SLOW = 4, LIMIT = 5;
    static final int CHARGE = 0, HEADS = 1, HEART = 2, TAILS = 3, LEFT = 4;
    static final int LITRES = 0, SPIRIT = 1, HEADY = 2, OILY = 3, STRENGTH = 4, TAINT = 5;
    static final int[] FIRST_WASH = {12, 80, 20, 40};
    static final int[] FIRST_TABLE = {0, 450, 600, 690, 740, 780, 820, 860, 900, 950, 1000};
    static final int[] FIRST_RULES = {1, 600, 200, 5, 9, 10};

    final Check check;
    Pot pot = new Pot();

    Bench(Check check) {
        this.check = check;
    }

    final void due(String call, long got, long want) {
        check.due(call, got, want);
    }

    /** A new pot; the one that was must not have been asked more than the document answers for. */
    final void fresh() {
        check.holds("no more than 512 calls (" + pot.calls() + ")", pot.calls() <= Pot.MOST_CALLS);
        pot = new Pot();
    }

    final void rules(int... values) {
        for (int i = 0; i < values.length; i++) {
            pot.rule(i, values[i]);
        }
    }

    /** THE TABLE tells v at all PLACES from the first to the last of these. */
    final void places(int first, int last, int v) {
        for (int place = first; place <= last; place++) {
            pot.table(place, v);
        }
    }

    /** All that is held but IMAGES, with few calls. */
    final List<Integer> snapshot() {
        List<Integer> all = new ArrayList<>();
        for (int what = 0; what <= 30; what++) {
            if (what <= 6 || what >= 10 && what <= 15 || what >= 20) {
                all.add(pot.count(what));
            }
        }
        int pages = pot.count(1);
        for (int what = LITRES; what <= OILY; what++) {
            all.add(pot.kept(what));
            for (int page = 0; page < pages; page++) {
                all.add(pot.page(page, what));
            }
        }
        return all;
    }

    final void unchanged(String after, List<Integer> before) {
        check.holds(after + " changes nothing", before.equals(snapshot()));
    }

    final void liquidDue(String name, long[] got, long... want) {
        for (int what = 0; what < want.length; what++) {
            due(name + " " + what, got[what], want[what]);
        }
    }

    final long[] part(int which) {
        long[] told = new long[6];
        for (int what = LITRES; what <= TAINT; what++) {
            told[what] = pot.part(which, what);
        }
        return told;
    }

    final long[] kept() {
        long[] told = new long[6];
        for (int what = LITRES; what <= TAINT; what++) {
            told[what] = pot.kept(what);
        }
        return told;
    }

    final long[] page(int page) {
        long[] told = new long[6];
        for (int what = LITRES; what <= TAINT; what++) {
            told[what] = pot.page(page, what);
        }
        return told;
    }

    final long[] litre(int i) {
        long[] told = new long[5];
        for (int what = 0; what <= 4; what++) {
            told[what] = pot.litre(i, what);
        }
        return told;
    }

    /** A LITRE a RUN, all of it HEART: STRENGTH 300, y 690, but there are only 600 of SPIRIT. */
    final void oneLitreOfHeart() {
        fresh();
        pot.wash(2, 300, 0, 0);
        rules(0, 0, 0);
    }

    /** Nine LITRES with y 0, then, as STRENGTH is above 1000, two with y 1000. */
    final void lateSpirit(int heady) {
        fresh();
        places(0, 9, 0);
        pot.wash(12, 300, heady, 0);
        rules(1, 600, 0);
    }
}
