import java.util.Random;

/** Long runs of drawn calls on NodTax and on the plain model, which must answer alike (seeds are fixed). */
final class ModelTest {
    private static final int RUNS = 1500;
    private static final int CALLS = 200;

    private final Random random;
    private final NodTax x = new NodTax();
    private final PlainModel y = new PlainModel();
    private final String run;

    private ModelTest(int seed) {
        random = new Random(seed);
        run = "run " + seed + ": ";
    }

    public static void main(String[] args) {
        for (int seed = 0; seed < RUNS; seed++) {
            new ModelTest(seed).play();
        }
        allParishes();
        Check.end();
    }

    /** Each HEARER is not there, of CREED 0, or of CREED 1: few enough to ask for all of them. */
    private static void allParishes() {
        for (int code = 0; code < 6561; code++) {
            NodTax x = new NodTax();
            PlainModel y = new PlainModel();
            for (int hearer = 0, rest = code; hearer < 8; hearer++, rest /= 3) {
                if (rest % 3 != 0) {
                    x.hearer(hearer, hearer, 5, 1, rest % 3 - 1, false);
                    y.hearer(hearer, hearer, 5, 1, rest % 3 - 1, false);
                }
            }
            for (int church = -1; church <= 2; church++) {
                Check.due("church " + code + ": parishes " + church, x.parishes(church), y.parishes(church));
            }
            Check.holds("church " + code + ": rounds end", x.parishes(-1) >= 1 && x.parishes(-1) <= 4);
        }
    }

    private void play() {
        fill();
        for (int i = 0; i < CALLS; i++) {
            int kind = random.nextInt(100);
            if (kind < 30) {
                change();
            } else if (kind < 90) {
                ask();
            } else if (kind < 92) {
                askDearly();
            } else {
                checkState();
            }
        }
    }

    /** Mostly within the bounds, at times just outside of them. */
    private int draw(int low, int high) {
        int kind = random.nextInt(40);
        return kind == 0 ? low - 1 : kind == 1 ? high + 1 : low + random.nextInt(high - low + 1);
    }

    private void same(String call, long got, long want) {
        Check.due(run + call, got, want);
    }

    private void fill() {
        int rows = 1 + random.nextInt(3);
        same("church", x.church(rows), y.church(rows));
        int people = random.nextInt(20);
        for (int i = 0; i < people; i++) {
            seatSomebody();
        }
        text(random.nextInt(14));
    }

    private void seatSomebody() {
        int h = draw(0, 7);
        int seat = draw(0, 11);
        int awake = random.nextInt(3) == 0 ? draw(0, 4) : draw(0, 20);
        int dull = draw(0, 5);
        int creed = draw(0, 1);
        boolean upright = random.nextInt(6) == 0;
        same("hearer(" + h + ", " + seat + ")", x.hearer(h, seat, awake, dull, creed, upright),
                y.hearer(h, seat, awake, dull, creed, upright));
    }

    private void text(int length) {
        same("wipe", x.wipe(), y.wipe());
        for (int i = 0; i < length; i++) {
            word();
        }
    }

    private void word() {
        int sign = random.nextInt(300) == 0 ? draw(33, 126) : "whoncs~".charAt(random.nextInt(7));
        same("say " + sign, x.say(sign), y.say(sign));
    }

    private void change() {
        int a = draw(0, 7);
        int which = draw(0, 2);
        int v = which == 0 ? draw(1, 9) : which == 1 ? draw(0, 9) : draw(0, 2);
        int n = draw(0, 1);
        switch (random.nextInt(12)) {
            case 0 -> same("leave", x.leave(a), y.leave(a));
            case 1, 2 -> same("set", x.set(which, v), y.set(which, v));
            case 3 -> text(random.nextInt(8));
            case 4 -> text(random.nextInt(70));
            case 5 -> word();
            case 6 -> {
                int dips = random.nextInt(3) == 0 ? draw(0, 8) : draw(0, 2);
                int m = random.nextInt(8) == 0 ? draw(0, 59) : draw(0, 5);
                same("seen", x.seen(m, dips), y.seen(m, dips));
            }
            case 7 -> same("forget", x.forget(), y.forget());
            case 8 -> same("image", x.image(n), y.image(n));
            case 9 -> same("restore", x.restore(n), y.restore(n));
            case 10 -> {
                if (random.nextInt(4) == 0) {
                    fill();
                }
            }
            default -> seatSomebody();
        }
    }

    private void ask() {
        int h = draw(0, 7);
        int m = draw(-1, random.nextInt(4) == 0 ? 59 : 7);
        int what = draw(0, 1);
        int part = draw(0, 1);
        switch (random.nextInt(16)) {
            case 0 -> same("fault", x.fault(), y.fault());
            case 1, 2 -> same("heard(" + h + ", " + m + ")", x.heard(h, m, part + 2 * what), y.heard(h, m, part + 2 * what));
            case 3, 4 -> same("sum(" + m + ")", x.sum(m, h), y.sum(m, h));
            case 5 -> same("first", x.first(what), y.first(what));
            case 6 -> same("gain", x.gain(), y.gain());
            case 7 -> same("start", x.start(what), y.start(what));
            case 8 -> same("seated", x.seated(what), y.seated(what));
            case 9 -> same("least", x.least(), y.least());
            case 10 -> same("dips", x.dips(h, what), y.dips(h, what));
            case 11 -> same("alike", x.alike(m), y.alike(m));
            case 12 -> {
                int church = draw(-1, 2);
                same("parishes " + church, x.parishes(church), y.parishes(church));
            }
            case 13 -> {
                int seed = draw(0, 9999);
                int sermons = draw(1, 50);
                int which = draw(0, 2);
                same("year", x.year(seed, sermons, which), y.year(seed, sermons, which));
            }
            case 14 -> same("preached " + m, x.preached(m), y.preached(m));
            default -> same("surely", x.surely(), y.surely());
        }
    }

    private void askDearly() {
        int what = draw(0, 1);
        int part = draw(0, 1);
        switch (random.nextInt(3)) {
            case 0 -> {
                int place = draw(-1, 7);
                same("order(" + what + ", " + place + ")", x.order(what, place), y.order(what, place));
            }
            case 1 -> {
                int v = random.nextInt(4) == 0 ? draw(0, 999) : draw(0, 40);
                same("hired(" + v + ", " + what + ")", x.hired(v, what), y.hired(v, what));
            }
            default -> {
                int t = draw(0, 10);
                same("cold(" + t + ", " + what + ", " + part + ")", x.cold(t, what, part), y.cold(t, what, part));
            }
        }
    }

    private void checkState() {
        for (int what = -2; what < 100; what++) {
            same("told " + what, x.told(what), y.told(what));
        }
    }
}
