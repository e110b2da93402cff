import java.util.ArrayList;
import java.util.HashMap;
import java.util.List;
import java.util.Map;

/**
 * The document once more, written apart from the program and in another manner (records that
 * are made anew, long numbers, maps), so that a slip in one is not likely to be in the other.
 */
final class Model {
    static final int UNKNOWN = -1, OUTSIDE = -2, STATE = -3, NONE = -6;

    record Liquid(long litres, long spirit, long heady, long oily) {
        static final Liquid NOTHING = new Liquid(0, 0, 0, 0);

        Liquid plus(Liquid o) {
            return new Liquid(litres + o.litres, spirit + o.spirit, heady + o.heady, oily + o.oily);
        }

        Liquid minus(Liquid o) {
            return new Liquid(litres - o.litres, spirit - o.spirit, heady - o.heady, oily - o.oily);
        }

        long strength() {
            return litres == 0 ? 0 : spirit / litres;
        }

        long taint() {
            return litres == 0 ? 0 : (heady + oily) / litres;
        }

        long get(int what) {
            return new long[] {litres, spirit, heady, oily, strength(), taint()}[what];
        }
    }

    record Drop(long y, Liquid liquid) { }

    record Outcome(Liquid charge, List<Drop> drops, int[] sides, Liquid left) {
        Liquid side(int which) {
            Liquid sum = Liquid.NOTHING;
            for (int i = 0; i < drops.size(); i++) {
                if (sides[i] == which) {
                    sum = sum.plus(drops.get(i).liquid());
                }
            }
            return sum;
        }

        Liquid keptNext() {
            return side(0).plus(side(2));
        }
    }

    record Good(int fore, int cut, long spirit, long taint) { }

    record All(List<Integer> wash, List<Integer> table, List<Integer> rules, Liquid kept,
               List<Liquid> book, int runs) {
        static All first() {
            return new All(List.of(12, 80, 20, 40),
                    List.of(0, 450, 600, 690, 740, 780, 820, 860, 900, 950, 1000),
                    List.of(1, 600, 200, 5, 9, 10), Liquid.NOTHING, List.of(), 0);
        }

        All withWash(List<Integer> w) {
            return new All(w, table, rules, kept, book, runs);
        }

        All withTable(List<Integer> t) {
            return new All(wash, t, rules, kept, book, runs);
        }

        All withRules(List<Integer> r) {
            return new All(wash, table, r, kept, book, runs);
        }

        All withKept(Liquid k) {
            return new All(wash, table, rules, k, book, runs);
        }

        All withBook(List<Liquid> b) {
            return new All(wash, table, rules, kept, b, runs);
        }
    }

    All all = All.first();
    final Map<Integer, All> images = new HashMap<>();

    private static boolean out(long v, long least, long most) {
        return v < least || v > most;
    }

    private static <T> List<T> changed(List<T> list, int i, T v) {
        List<T> copy = new ArrayList<>(list);
        copy.set(i, v);
        return copy;
    }

    private long overOf(long x) {
        if (x >= 1000) {
            return all.table().get(10);
        }
        long rest = x % 100;
        long low = all.table().get((int) ((x - rest) / 100));
        long high = all.table().get((int) ((x - rest) / 100) + 1);
        long rise = (high - low) * rest;
        long cut = rise < 0 ? -((-rise) / 100) : rise / 100;
        return low + cut;
    }

    private Outcome outcome(Liquid kept, int fore, int cut) {
        List<Integer> w = all.wash();
        Liquid charge = new Liquid(w.get(0), (long) w.get(0) * w.get(1), w.get(2), w.get(3)).plus(kept);
        List<Drop> drops = new ArrayList<>();
        Liquid pot = charge;
        while (pot.litres() > 1 && drops.size() < 40) {
            long y = overOf(Math.min(1000, pot.strength()));
            if (y < all.rules().get(2)) {
                break;
            }
            long heady = pot.heady() * all.rules().get(3) / 10 + 1;
            Liquid gone = new Liquid(1, y > pot.spirit() ? pot.spirit() : y,
                    heady > pot.heady() ? pot.heady() : heady,
                    pot.oily() * (1000 - y) / (1000L * all.rules().get(4)));
            drops.add(new Drop(y, gone));
            pot = pot.minus(gone);
        }
        int[] sides = new int[drops.size()];
        boolean tails = false;
        for (int i = 0; i < sides.length; i++) {
            if (i >= fore) {
                tails = tails || drops.get(i).y() < cut;
                sides[i] = tails ? 2 : 1;
            }
        }
        return new Outcome(charge, drops, sides, pot);
    }

    private Outcome next(Liquid kept) {
        return outcome(kept, all.rules().get(0), all.rules().get(1));
    }

    long wash(int litres, int spirit, int heady, int oily) {
        if (out(litres, 1, 30) || out(spirit, 0, 300) || out(heady, 0, 99) || out(oily, 0, 99)) {
            return OUTSIDE;
        }
        long was = all.wash().get(0);
        all = all.withWash(List.of(litres, spirit, heady, oily));
        return was;
    }

    long table(int place, int v) {
        if (out(place, 0, 10)) {
            return UNKNOWN;
        }
        if (out(v, 0, 1000)) {
            return OUTSIDE;
        }
        long was = all.table().get(place);
        all = all.withTable(changed(all.table(), place, v));
        return was;
    }

    long rule(int what, int v) {
        int[][] bounds = {{0, 9}, {0, 1000}, {0, 1000}, {1, 9}, {1, 99}, {0, 99}};
        if (out(what, 0, 5) || out(v, bounds[what][0], bounds[what][1])) {
            return OUTSIDE;
        }
        long was = all.rules().get(what);
        all = all.withRules(changed(all.rules(), what, v));
        return was;
    }

    long over(int x) {
        return out(x, 0, 1000) ? OUTSIDE : overOf(x);
    }

    long run() {
        Outcome o = next(all.kept());
        List<Liquid> book = new ArrayList<>(all.book());
        book.add(o.side(1));
        while (book.size() > 12) {
            book.remove(0);
        }
        all = new All(all.wash(), all.table(), all.rules(), o.keptNext(), book, all.runs() + 1);
        return o.side(1).litres();
    }

    long litre(int i, int what) {
        Outcome o = next(all.kept());
        if (i < -1 || i >= o.drops().size()) {
            return UNKNOWN;
        }
        if (out(what, 0, 4)) {
            return OUTSIDE;
        }
        if (i == -1) {
            return o.drops().size();
        }
        Drop d = o.drops().get(i);
        return what == 0 ? d.y() : what == 4 ? o.sides()[i] : d.liquid().get(what);
    }

    long part(int which, int what) {
        if (out(which, 0, 4) || out(what, 0, 5)) {
            return OUTSIDE;
        }
        Outcome o = next(all.kept());
        Liquid l = which == 0 ? o.charge() : which == 4 ? o.left() : o.side(which - 1);
        return l.get(what);
    }

    long kept(int what) {
        return out(what, 0, 5) ? OUTSIDE : all.kept().get(what);
    }

    long pour() {
        long had = all.kept().litres();
        all = all.withKept(Liquid.NOTHING);
        return had;
    }

    long settled(int what) {
        if (out(what, 0, 3)) {
            return OUTSIDE;
        }
        Map<Liquid, Integer> seen = new HashMap<>();
        List<Liquid> hearts = new ArrayList<>();
        Liquid kept = all.kept();
        seen.put(kept, 0);
        for (int runs = 1; runs <= 300; runs++) {
            Outcome o = next(kept);
            hearts.add(o.side(1));
            kept = o.keptNext();
            Integer ahead = seen.putIfAbsent(kept, runs);
            if (ahead != null) {
                Liquid sum = Liquid.NOTHING;
                for (Liquid heart : hearts.subList(ahead, runs)) {
                    sum = sum.plus(heart);
                }
                return new long[] {ahead, runs - ahead, sum.litres(), sum.spirit()}[what];
            }
        }
        return NONE;
    }

    private List<Good> goodCuts() {
        List<Good> good = new ArrayList<>();
        for (int fore = 0; fore <= 9; fore++) {
            for (int cut = all.rules().get(2); cut <= 1000; cut += 50) {
                Liquid heart = outcome(all.kept(), fore, cut).side(1);
                if (heart.litres() >= 1 && heart.taint() <= all.rules().get(5)) {
                    good.add(new Good(fore, cut, heart.spirit(), heart.taint()));
                }
            }
        }
        good.sort((a, b) -> a.spirit() != b.spirit() ? Long.compare(b.spirit(), a.spirit())
                : a.fore() != b.fore() ? a.fore() - b.fore() : a.cut() - b.cut());
        return good;
    }

    long best(int what) {
        if (out(what, 0, 4)) {
            return OUTSIDE;
        }
        List<Good> good = goodCuts();
        if (what == 4) {
            return good.size();
        }
        if (good.isEmpty()) {
            return NONE;
        }
        Good b = good.get(0);
        return new long[] {b.fore(), b.cut(), b.spirit(), b.taint()}[what];
    }

    long take() {
        List<Good> good = goodCuts();
        if (good.isEmpty()) {
            return STATE;
        }
        Good b = good.get(0);
        all = all.withRules(changed(changed(all.rules(), 0, b.fore()), 1, b.cut()));
        return b.spirit();
    }

    long cask(int n, int what) {
        if (out(n, 1, 999) || out(what, 0, 1)) {
            return OUTSIDE;
        }
        Liquid kept = all.kept();
        Liquid hearts = Liquid.NOTHING;
        for (int runs = 1; runs <= 300; runs++) {
            Outcome o = next(kept);
            kept = o.keptNext();
            hearts = hearts.plus(o.side(1));
            if (hearts.litres() >= n) {
                return what == 0 ? runs : hearts.strength();
            }
        }
        return NONE;
    }

    long page(int page, int what) {
        if (page < 0 || page >= all.book().size()) {
            return UNKNOWN;
        }
        return out(what, 0, 5) ? OUTSIDE : all.book().get(page).get(what);
    }

    long weed(int v) {
        if (out(v, 0, 1000)) {
            return OUTSIDE;
        }
        all = all.withBook(all.book().stream().filter(heart -> heart.strength() >= v).toList());
        return all.book().size();
    }

    long image(int k) {
        if (out(k, 0, 1)) {
            return OUTSIDE;
        }
        images.put(k, all);
        return 1;
    }

    long restore(int k) {
        if (out(k, 0, 1)) {
            return OUTSIDE;
        }
        if (!images.containsKey(k)) {
            return STATE;
        }
        all = images.get(k);
        return 1;
    }

    long count(int what) {
        if (what == 0) {
            return all.runs();
        }
        if (what == 1) {
            return all.book().size();
        }
        if (what == 2) {
            return (images.containsKey(0) ? 1 : 0) + (images.containsKey(1) ? 2 : 0);
        }
        if (!out(what, 3, 6)) {
            return all.wash().get(what - 3);
        }
        if (!out(what, 10, 15)) {
            return all.rules().get(what - 10);
        }
        return out(what, 20, 30) ? OUTSIDE : all.table().get(what - 20);
    }
}
