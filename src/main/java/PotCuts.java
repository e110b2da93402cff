/**
 * A pot that is run, and run again.
 *
 * All objects are made with the pot and used again by its calls: a long run of calls shares
 * one room, so no call makes anything of its own.
 */
public final class PotCuts {
    public static final int UNKNOWN = -1, OUTSIDE = -2, STATE = -3, FULL = -4, NO = -5, NONE = -6;

    private static final int MOST_STRENGTH = 1000;
    private static final int MOST_OVER = 40;
    private static final int MOST_PAGES = 12;
    private static final int MOST_RUNS = 300;

    private static final int LITRES = 0, SPIRIT = 1, HEADY = 2, OILY = 3, STRENGTH = 4, TAINT = 5;
    private static final int IN_HEADS = 0, IN_HEART = 1, IN_TAILS = 2;

    private static final int FORE = 0, CUT = 1, END = 2, FAST = 3, SLOW = 4, LIMIT = 5;
    private static final int[] LEAST_RULES = {0, 0, 0, 1, 1, 0};
    private static final int[] MOST_RULES = {9, 1000, 1000, 9, 99, 99};
    private static final int CUT_STEP = 50;

    private static final int[] FIRST_RULES = {1, 600, 200, 5, 9, 10};
    private static final int[] FIRST_WASH = {12, 80, 20, 40};
    private static final int LAST_PLACE = 10;
    private static final int[] FIRST_PLACES = {0, 450, 600, 690, 740, 780, 820, 860, 900, 950, 1000};

    private static final int COUNT_WASH = 3, COUNT_RULES = 10, COUNT_PLACES = 20;

    private final Told now = new Told();
    private final Told firstImage = new Told();
    private final Told secondImage = new Told();
    private int imagesKept = 0;

    private final Still still = new Still();
    private final Choice choice = new Choice();
    private final Forecast forecast = new Forecast();
    private final Liquid pageHeart = new Liquid();

    public PotCuts() {
    }

    // ---- 1 wash, rules

    public int wash(int litres, int spirit, int heady, int oily) {
        if (!within(litres, 1, 30) || !within(spirit, 0, 300)
                || !within(heady, 0, 99) || !within(oily, 0, 99)) {
            return OUTSIDE;
        }
        int was = now.wash[LITRES];
        now.wash[LITRES] = litres;
        now.wash[SPIRIT] = spirit;
        now.wash[HEADY] = heady;
        now.wash[OILY] = oily;
        return was;
    }

    public int table(int place, int v) {
        if (!within(place, 0, LAST_PLACE)) {
            return UNKNOWN;
        }
        if (!within(v, 0, MOST_STRENGTH)) {
            return OUTSIDE;
        }
        int was = now.places[place];
        now.places[place] = v;
        return was;
    }

    public int rule(int what, int v) {
        if (!within(what, FORE, LIMIT) || !within(v, LEAST_RULES[what], MOST_RULES[what])) {
            return OUTSIDE;
        }
        int was = now.rules[what];
        now.rules[what] = v;
        return was;
    }

    public int over(int x) {
        return within(x, 0, MOST_STRENGTH) ? now.overOf(x) : OUTSIDE;
    }

    // ---- 2 runs

    public int run() {
        seeNextRun();
        still.keepInto(now.kept);
        now.book.appendAsNewest(still.heart);
        now.runsGone++;
        return still.heart.litres;
    }

    public int litre(int i, int what) {
        seeNextRun();
        if (!within(i, -1, still.wentOver.size - 1)) {
            return UNKNOWN;
        }
        if (!within(what, 0, 4)) {
            return OUTSIDE;
        }
        return i == -1 ? still.wentOver.size : still.tellLitre(i, what);
    }

    public int part(int which, int what) {
        if (!within(which, 0, 4) || !within(what, LITRES, TAINT)) {
            return OUTSIDE;
        }
        seeNextRun();
        return still.liquidOf(which).tell(what);
    }

    public int kept(int what) {
        return within(what, LITRES, TAINT) ? now.kept.tell(what) : OUTSIDE;
    }

    public int pour() {
        int had = now.kept.litres;
        now.kept.clear();
        return had;
    }

    // ---- 3 runs to come

    public int settled(int what) {
        if (!within(what, 0, 3)) {
            return OUTSIDE;
        }
        if (!forecast.settle(now, still)) {
            return NONE;
        }
        switch (what) {
            case 0: return forecast.ahead;
            case 1: return forecast.round;
            case 2: return forecast.hearts.litres;
            default: return forecast.hearts.spirit;
        }
    }

    public int best(int what) {
        if (!within(what, 0, 4)) {
            return OUTSIDE;
        }
        choice.seek(now, still);
        if (what == 4) {
            return choice.good;
        }
        return choice.good == 0 ? NONE : choice.tell(what);
    }

    public int take() {
        choice.seek(now, still);
        if (choice.good == 0) {
            return STATE;
        }
        now.rules[FORE] = choice.fore;
        now.rules[CUT] = choice.cut;
        return choice.spirit;
    }

    public int cask(int n, int what) {
        if (!within(n, 1, 999) || !within(what, 0, 1)) {
            return OUTSIDE;
        }
        int runs = forecast.runsToFill(n, now, still);
        if (runs == 0) {
            return NONE;
        }
        return what == 0 ? runs : forecast.hearts.tell(STRENGTH);
    }

    // ---- 4 the book

    public int page(int page, int what) {
        if (!within(page, 0, now.book.size - 1)) {
            return UNKNOWN;
        }
        if (!within(what, LITRES, TAINT)) {
            return OUTSIDE;
        }
        now.book.load(page, pageHeart);
        return pageHeart.tell(what);
    }

    public int weed(int v) {
        if (!within(v, 0, MOST_STRENGTH)) {
            return OUTSIDE;
        }
        now.book.dropBelow(v, pageHeart);
        return now.book.size;
    }

    // ---- 5 images

    public int image(int k) {
        if (!within(k, 0, 1)) {
            return OUTSIDE;
        }
        imageAt(k).become(now);
        imagesKept |= 1 << k;
        return 1;
    }

    public int restore(int k) {
        if (!within(k, 0, 1)) {
            return OUTSIDE;
        }
        if ((imagesKept & (1 << k)) == 0) {
            return STATE;
        }
        now.become(imageAt(k));
        return 1;
    }

    public int count(int what) {
        if (within(what, COUNT_WASH, COUNT_WASH + OILY)) {
            return now.wash[what - COUNT_WASH];
        }
        if (within(what, COUNT_RULES, COUNT_RULES + LIMIT)) {
            return now.rules[what - COUNT_RULES];
        }
        if (within(what, COUNT_PLACES, COUNT_PLACES + LAST_PLACE)) {
            return now.places[what - COUNT_PLACES];
        }
        switch (what) {
            case 0: return now.runsGone;
            case 1: return now.book.size;
            case 2: return imagesKept;
            default: return OUTSIDE;
        }
    }

    private void seeNextRun() {
        still.boil(now, now.kept);
        still.cutAt(now.rules[FORE], now.rules[CUT]);
    }

    private Told imageAt(int k) {
        return k == 0 ? firstImage : secondImage;
    }

    private static boolean within(int v, int least, int most) {
        return v >= least && v <= most;
    }

    /** The document tells 0 for STRENGTH and TAINT of a LIQUID that has no LITRES. */
    private static int quotient(int dividend, int divisor) {
        return divisor > 0 ? dividend / divisor : 0;
    }

    private static final class Liquid {
        int litres = 0;
        int spirit = 0;
        int heady = 0;
        int oily = 0;

        void put(int newLitres, int newSpirit, int newHeady, int newOily) {
            litres = newLitres;
            spirit = newSpirit;
            heady = newHeady;
            oily = newOily;
        }

        void clear() {
            put(0, 0, 0, 0);
        }

        void become(Liquid other) {
            put(other.litres, other.spirit, other.heady, other.oily);
        }

        void add(Liquid other) {
            put(litres + other.litres, spirit + other.spirit, heady + other.heady, oily + other.oily);
        }

        void lose(Liquid other) {
            put(litres - other.litres, spirit - other.spirit, heady - other.heady, oily - other.oily);
        }

        int tell(int what) {
            switch (what) {
                case LITRES: return litres;
                case SPIRIT: return spirit;
                case HEADY: return heady;
                case OILY: return oily;
                case STRENGTH: return quotient(spirit, litres);
                default: return quotient(heady + oily, litres);
            }
        }
    }

    /** LIQUIDS in a row, as plain numbers: no place of it can be empty of an object. */
    private static final class Row {
        final int most;
        final int[] litres;
        final int[] spirit;
        final int[] heady;
        final int[] oily;
        int size = 0;

        Row(int places) {
            most = Math.max(places, 0);
            litres = new int[most];
            spirit = new int[most];
            heady = new int[most];
            oily = new int[most];
        }

        void clear() {
            size = 0;
        }

        boolean holds(int i) {
            return i >= 0 && i < size && i < most;
        }

        void load(int i, Liquid into) {
            if (holds(i)) {
                into.put(litres[i], spirit[i], heady[i], oily[i]);
            }
        }

        void append(Liquid one) {
            if (size < 0 || size >= most) {
                return;
            }
            litres[size] = one.litres;
            spirit[size] = one.spirit;
            heady[size] = one.heady;
            oily[size] = one.oily;
            size++;
        }

        void appendAsNewest(Liquid one) {
            if (size >= most) {
                dropEldest();
            }
            append(one);
        }

        void dropEldest() {
            for (int i = 1; i < size && i < most; i++) {
                move(i, i - 1);
            }
            size = Math.max(size - 1, 0);
        }

        void dropBelow(int strength, Liquid scratch) {
            int left = 0;
            for (int i = 0; i < size; i++) {
                load(i, scratch);
                if (scratch.tell(STRENGTH) >= strength) {
                    move(i, left);
                    left++;
                }
            }
            size = left;
        }

        void move(int from, int to) {
            if (holds(from) && holds(to)) {
                litres[to] = litres[from];
                spirit[to] = spirit[from];
                heady[to] = heady[from];
                oily[to] = oily[from];
            }
        }

        void become(Row other) {
            int n = Math.max(0, Math.min(other.size, Math.min(other.most, most)));
            System.arraycopy(other.litres, 0, litres, 0, n);
            System.arraycopy(other.spirit, 0, spirit, 0, n);
            System.arraycopy(other.heady, 0, heady, 0, n);
            System.arraycopy(other.oily, 0, oily, 0, n);
            size = n;
        }

        /** Where the row has what is as one is, or -1. */
        int find(Liquid one) {
            for (int i = 0; i < size && i < most; i++) {
                if (spirit[i] == one.spirit && oily[i] == one.oily
                        && heady[i] == one.heady && litres[i] == one.litres) {
                    return i;
                }
            }
            return -1;
        }
    }

    /** All that an IMAGE keeps. */
    private static final class Told {
        final int[] wash = FIRST_WASH.clone();
        final int[] places = FIRST_PLACES.clone();
        final int[] rules = FIRST_RULES.clone();
        final Liquid kept = new Liquid();
        final Row book = new Row(MOST_PAGES);
        int runsGone = 0;

        void become(Told other) {
            System.arraycopy(other.wash, 0, wash, 0, OILY + 1);
            System.arraycopy(other.places, 0, places, 0, LAST_PLACE + 1);
            System.arraycopy(other.rules, 0, rules, 0, LIMIT + 1);
            kept.become(other.kept);
            book.become(other.book);
            runsGone = other.runsGone;
        }

        int overOf(int strength) {
            int x = Math.max(0, Math.min(strength, MOST_STRENGTH));
            int p = x / 100;
            if (p >= LAST_PLACE) {
                return places[LAST_PLACE];
            }
            return places[p] + (places[p + 1] - places[p]) * (x % 100) / 100;
        }
    }

    /** One RUN, seen without letting it go: what is told stays as it is. */
    private static final class Still {
        final Liquid charge = new Liquid();
        final Liquid pot = new Liquid();
        final Liquid heads = new Liquid();
        final Liquid heart = new Liquid();
        final Liquid tails = new Liquid();
        final Liquid one = new Liquid();
        final Row wentOver = new Row(MOST_OVER);
        final int[] strengths = new int[MOST_OVER];
        int headsEnd = 0;
        int heartEnd = 0;

        void boil(Told told, Liquid kept) {
            int litres = told.wash[LITRES];
            charge.put(litres, litres * told.wash[SPIRIT], told.wash[HEADY], told.wash[OILY]);
            charge.add(kept);
            pot.become(charge);
            wentOver.clear();
            for (int i = 0; i < MOST_OVER && pot.litres > 1; i++) {
                int y = told.overOf(pot.tell(STRENGTH));
                if (y < told.rules[END]) {
                    return;
                }
                strengths[i] = y;
                letOneOver(y, told.rules[FAST], told.rules[SLOW]);
            }
        }

        void letOneOver(int y, int fast, int slow) {
            int spirit = Math.min(y, pot.spirit);
            int heady = Math.min(pot.heady * fast / 10 + 1, pot.heady);
            int oily = quotient(pot.oily * (MOST_STRENGTH - y), MOST_STRENGTH * slow);
            one.put(1, spirit, heady, oily);
            pot.lose(one);
            wentOver.append(one);
        }

        /** Cuts do not change what goes over, so that many can be tried upon one boiling. */
        void cutAt(int fore, int cut) {
            headsEnd = Math.min(fore, wentOver.size);
            heartEnd = headsEnd;
            while (heartEnd < wentOver.size && heartEnd < MOST_OVER && strengths[heartEnd] >= cut) {
                heartEnd++;
            }
            gather(heads, 0, headsEnd);
            gather(heart, headsEnd, heartEnd);
            gather(tails, heartEnd, wentOver.size);
        }

        void gather(Liquid into, int from, int to) {
            into.clear();
            for (int i = from; i < to; i++) {
                wentOver.load(i, one);
                into.add(one);
            }
        }

        void keepInto(Liquid kept) {
            kept.become(heads);
            kept.add(tails);
        }

        int tellLitre(int i, int what) {
            if (what == 4) {
                return i < headsEnd ? IN_HEADS : i < heartEnd ? IN_HEART : IN_TAILS;
            }
            if (what == 0) {
                return i >= 0 && i < MOST_OVER ? strengths[i] : 0;
            }
            wentOver.load(i, one);
            return one.tell(what);
        }

        Liquid liquidOf(int which) {
            switch (which) {
                case 0: return charge;
                case 1: return heads;
                case 2: return heart;
                case 3: return tails;
                default: return pot;
            }
        }
    }

    /** GOOD cuts, and BEST of them. */
    private static final class Choice {
        int good = 0;
        int fore = 0;
        int cut = 0;
        int spirit = 0;
        int taint = 0;

        void seek(Told told, Still still) {
            still.boil(told, told.kept);
            good = 0;
            for (int f = 0; f <= MOST_RULES[FORE]; f++) {
                for (int c = told.rules[END]; c <= MOST_RULES[CUT]; c += CUT_STEP) {
                    still.cutAt(f, c);
                    weigh(f, c, still.heart, told.rules[LIMIT]);
                }
            }
        }

        /** Cuts come with the least FORE and CUT first: only more SPIRIT takes the place of what is BEST. */
        void weigh(int byFore, int byCut, Liquid heart, int limit) {
            if (heart.litres < 1 || heart.tell(TAINT) > limit) {
                return;
            }
            good++;
            if (good == 1 || heart.spirit > spirit) {
                fore = byFore;
                cut = byCut;
                spirit = heart.spirit;
                taint = heart.tell(TAINT);
            }
        }

        int tell(int what) {
            switch (what) {
                case 0: return fore;
                case 1: return cut;
                case 2: return spirit;
                default: return taint;
            }
        }
    }

    /** RUNS to come, one behind the other, as all is told now. */
    private static final class Forecast {
        final Liquid kept = new Liquid();
        final Liquid hearts = new Liquid();
        final Liquid heartsAhead = new Liquid();
        final Row pastKept = new Row(MOST_RUNS);
        final Row pastHearts = new Row(MOST_RUNS);
        int ahead = 0;
        int round = 0;

        void begin(Told told) {
            kept.become(told.kept);
            hearts.clear();
            pastKept.clear();
            pastHearts.clear();
        }

        void goOn(Told told, Still still) {
            pastKept.append(kept);
            pastHearts.append(hearts);
            still.boil(told, kept);
            still.cutAt(told.rules[FORE], told.rules[CUT]);
            still.keepInto(kept);
            hearts.add(still.heart);
        }

        boolean settle(Told told, Still still) {
            begin(told);
            for (int runs = 1; runs <= MOST_RUNS; runs++) {
                goOn(told, still);
                int earlier = pastKept.find(kept);
                if (earlier >= 0) {
                    ahead = earlier;
                    round = runs - earlier;
                    pastHearts.load(earlier, heartsAhead);
                    hearts.lose(heartsAhead);
                    return true;
                }
            }
            return false;
        }

        /** 0, which no cask can need, if HEARTS have too few LITRES within MOST_RUNS. */
        int runsToFill(int litres, Told told, Still still) {
            begin(told);
            for (int runs = 1; runs <= MOST_RUNS; runs++) {
                goOn(told, still);
                if (hearts.litres >= litres) {
                    return runs;
                }
            }
            return 0;
        }
    }
}
