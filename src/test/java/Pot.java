/** A PotCuts that counts its calls: the document leaves free what is answered behind the 512th. */
final class Pot {
    static final int MOST_CALLS = 512;

    private final PotCuts cuts = new PotCuts();
    private int calls = 0;

    int calls() {
        return calls;
    }

    private PotCuts next() {
        calls++;
        return cuts;
    }

    int wash(int litres, int spirit, int heady, int oily) {
        return next().wash(litres, spirit, heady, oily);
    }

    int table(int place, int v) {
        return next().table(place, v);
    }

    int rule(int what, int v) {
        return next().rule(what, v);
    }

    int over(int x) {
        return next().over(x);
    }

    int run() {
        return next().run();
    }

    int litre(int i, int what) {
        return next().litre(i, what);
    }

    int part(int which, int what) {
        return next().part(which, what);
    }

    int kept(int what) {
        return next().kept(what);
    }

    int pour() {
        return next().pour();
    }

    int settled(int what) {
        return next().settled(what);
    }

    int best(int what) {
        return next().best(what);
    }

    int take() {
        return next().take();
    }

    int cask(int n, int what) {
        return next().cask(n, what);
    }

    int page(int page, int what) {
        return next().page(page, what);
    }

    int weed(int v) {
        return next().weed(v);
    }

    int image(int k) {
        return next().image(k);
    }

    int restore(int k) {
        return next().restore(k);
    }

    int count(int what) {
        return next().count(what);
    }
}
