import java.util.Random;

/** Long runs of calls, drawn from fixed seeds, on the program and on Model side by side. */
public final class ModelTest {
    private static final int OBJECTS = 600;
    private static final int CALLS = 512;
    private static final int MOST_WRONG = 20;

    private final Check check;
    private final Random draw;
    private final int seed;
    private final PotCuts pot = new PotCuts();
    private final Model model = new Model();

    private ModelTest(Check check, int seed) {
        this.check = check;
        this.seed = seed;
        this.draw = new Random(seed);
    }

    /** Mostly least to most, and now and then a number beyond, or far beyond. */
    private int near(int least, int most) {
        int kind = draw.nextInt(40);
        if (kind == 0) {
            return least - 1;
        }
        if (kind == 1) {
            return most + 1;
        }
        if (kind == 2) {
            int[] far = {Integer.MIN_VALUE, Integer.MAX_VALUE, -1000000, 1000000};
            return far[draw.nextInt(far.length)];
        }
        if (kind < 8) {
            return draw.nextBoolean() ? least : most;
        }
        return least + draw.nextInt(most - least + 1);
    }

    private void due(String call, long got, long want) {
        check.due("seed " + seed + " " + call, got, want);
    }

    private void told() {
        switch (draw.nextInt(4)) {
            case 0 -> {
                int l = near(1, 30), s = near(0, 300), h = near(0, 99), o = near(0, 99);
                due("wash(" + l + ", " + s + ", " + h + ", " + o + ")", pot.wash(l, s, h, o), model.wash(l, s, h, o));
            }
            case 1 -> {
                int place = near(0, 10), v = near(0, 1000);
                due("table(" + place + ", " + v + ")", pot.table(place, v), model.table(place, v));
            }
            default -> {
                int[] least = {0, 0, 0, 1, 1, 0};
                int[] most = {9, 1000, 1000, 9, 99, 99};
                int what = near(0, 5);
                int at = Math.max(0, Math.min(5, what));
                int v = at == 2 && draw.nextInt(3) > 0 ? draw.nextInt(300) : near(least[at], most[at]);
                due("rule(" + what + ", " + v + ")", pot.rule(what, v), model.rule(what, v));
            }
        }
    }

    private void ahead() {
        switch (draw.nextInt(3)) {
            case 0 -> {
                int what = near(0, 3);
                due("settled(" + what + ")", pot.settled(what), model.settled(what));
            }
            case 1 -> {
                int what = near(0, 4);
                due("best(" + what + ")", pot.best(what), model.best(what));
            }
            default -> {
                int n = near(1, 999), what = near(0, 1);
                due("cask(" + n + ", " + what + ")", pot.cask(n, what), model.cask(n, what));
            }
        }
    }

    private void look() {
        switch (draw.nextInt(6)) {
            case 0 -> {
                int x = near(0, 1000);
                due("over(" + x + ")", pot.over(x), model.over(x));
            }
            case 1 -> {
                int i = near(-1, 40), what = near(0, 4);
                due("litre(" + i + ", " + what + ")", pot.litre(i, what), model.litre(i, what));
            }
            case 2 -> {
                int which = near(0, 4), what = near(0, 5);
                due("part(" + which + ", " + what + ")", pot.part(which, what), model.part(which, what));
            }
            case 3 -> {
                int what = near(0, 5);
                due("kept(" + what + ")", pot.kept(what), model.kept(what));
            }
            case 4 -> {
                int page = near(0, 11), what = near(0, 5);
                due("page(" + page + ", " + what + ")", pot.page(page, what), model.page(page, what));
            }
            default -> {
                int what = near(0, 30);
                due("count(" + what + ")", pot.count(what), model.count(what));
            }
        }
    }

    private void seldom() {
        switch (draw.nextInt(5)) {
            case 0 -> due("pour()", pot.pour(), model.pour());
            case 1 -> due("take()", pot.take(), model.take());
            case 2 -> {
                int v = near(0, 1000);
                due("weed(" + v + ")", pot.weed(v), model.weed(v));
            }
            case 3 -> {
                int k = near(0, 1);
                due("image(" + k + ")", pot.image(k), model.image(k));
            }
            default -> {
                int k = near(0, 1);
                due("restore(" + k + ")", pot.restore(k), model.restore(k));
            }
        }
    }

    private void everything() {
        for (int what = 0; what <= 30; what++) {
            due("count(" + what + ") at the end", pot.count(what), model.count(what));
        }
        for (int what = 0; what <= 5; what++) {
            due("kept(" + what + ") at the end", pot.kept(what), model.kept(what));
            for (int page = 0; page < 12; page++) {
                due("page(" + page + ", " + what + ") at the end", pot.page(page, what), model.page(page, what));
            }
            for (int which = 0; which <= 4; which++) {
                due("part(" + which + ", " + what + ") at the end", pot.part(which, what), model.part(which, what));
            }
        }
        for (int i = -1; i <= 40; i++) {
            for (int what = 0; what <= 4; what++) {
                due("litre(" + i + ", " + what + ") at the end", pot.litre(i, what), model.litre(i, what));
            }
        }
    }

    /** An object's last calls go to everything(), but for a few that are used up to their limit. */
    private void go() {
        boolean toLimit = seed % 20 == 0;
        int calls = toLimit ? CALLS : 60 + draw.nextInt(100);
        for (int i = 0; i < calls && check.wrong() < MOST_WRONG; i++) {
            int kind = draw.nextInt(100);
            if (kind < 22) {
                told();
            } else if (kind < 47) {
                due("run()", pot.run(), model.run());
            } else if (kind < 57) {
                ahead();
            } else if (kind < 92) {
                look();
            } else {
                seldom();
            }
        }
        if (!toLimit && check.wrong() < MOST_WRONG) {
            everything();
        }
    }

    public static void main(String[] args) {
        Check check = new Check("ModelTest");
        for (int seed = 1; seed <= OBJECTS && check.wrong() < MOST_WRONG; seed++) {
            new ModelTest(check, seed).go();
        }
        check.end();
    }
}
