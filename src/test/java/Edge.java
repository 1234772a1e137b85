import java.util.ArrayList;
import java.util.List;

/**
 * For tests of boundary cases. Each sentence of the document that names one is announced by says(..). A refused call
 * is made on one of two twins, and no later question may tell the two apart.
 */
final class Edge {
    /** What is done to a new object ahead of the call that is looked at. */
    interface Making {
        void of(NodTax x);

        default Making and(Making more) {
            return x -> {
                of(x);
                more.of(x);
            };
        }
    }

    interface Asking {
        long of(NodTax x);
    }

    interface AskingWith {
        long of(NodTax x, int number);
    }

    static final Making NOTHING = x -> { };

    /** Three who are there, one of them UPRIGHT, a short SERMON, two SIGHTS; IMAGE 0 is kept, IMAGE 1 is not. */
    static final Making SOME = x -> {
        x.hearer(0, 0, 3, 1, 0, false);
        x.hearer(1, 1, 2, 2, 1, false);
        x.hearer(5, 5, 9, 0, 1, true);
        x.set(0, 6);
        x.set(1, 3);
        x.seen(0, 2);
        x.seen(2, 1);
        x.image(0);
        x.set(1, 2);
        x.set(2, 1);
        Check.text(x, "whc");
    };

    /** As much of everything as there can be. */
    static final Making MOST = x -> {
        x.church(3);
        for (int h = 0; h < 8; h++) {
            x.hearer(h, h < 7 ? h : 11, 20 - h, h % 6, h % 2, h == 3);
        }
        x.set(0, 9);
        x.set(1, 9);
        x.set(2, 1);
        x.seen(59, 8);
        x.image(0);
        for (int i = 1; i < 8; i++) {
            x.seen(i - 1, i);
        }
        x.set(2, 2);
        x.image(1);
        Check.text(x, "whoncs~whoncs~whoncs~whoncs~whoncs~whoncs~whoncs~whoncs~whon");
    };

    private static final Making[] SEVERAL = {NOTHING, SOME, MOST};

    private static String sentence = "";

    private Edge() {
    }

    static void says(String words) {
        sentence = words + ": ";
    }

    static Making text(String signs) {
        return x -> Check.text(x, signs);
    }

    static NodTax made(Making making) {
        NodTax x = new NodTax();
        making.of(x);
        return x;
    }

    static void due(String call, long got, long want) {
        Check.due(sentence + call, got, want);
    }

    /** A question: it has its answer, and changes nothing. */
    static void asked(Making making, String call, long want, Asking asking) {
        NodTax x = made(making);
        due(call, asking.of(x), want);
        alike(call, x, made(making));
    }

    /** A call that answers by a refusal, and changes nothing. */
    static void refused(Making making, String call, long refusal, Asking asking) {
        Check.holds(sentence + call + " has a refusal due", refusal < 0);
        asked(making, call, refusal, asking);
    }

    /** The first number beyond either end of a range, and some that are far beyond. */
    static void refusedBeyond(Making making, String call, int low, int high, long refusal, AskingWith asking) {
        int[] numbers = {low - 1, high + 1, low - 256, high + 256, low - 65536, high + 65536, Integer.MIN_VALUE,
            Integer.MAX_VALUE};
        for (int number : numbers) {
            refused(making, call + " with " + number, refusal, x -> asking.of(x, number));
        }
    }

    /** The same whatever else there is: nothing, something, or as much as there can be. */
    static void alwaysRefusedBeyond(String call, int low, int high, long refusal, AskingWith asking) {
        for (Making making : SEVERAL) {
            refusedBeyond(making, call, low, high, refusal, asking);
        }
    }

    /** Asks all there is to ask, IMAGES and SIGHTS among it. */
    private static void alike(String call, NodTax x, NodTax twin) {
        List<String> got = allAnswers(x);
        List<String> want = allAnswers(twin);
        for (int i = 0; i < want.size(); i++) {
            Check.holds(sentence + call + " changes nothing, but then " + got.get(i) + ", not " + want.get(i),
                    got.get(i).equals(want.get(i)));
        }
    }

    private static List<String> allAnswers(NodTax x) {
        List<String> all = new ArrayList<>();
        state("", x, all);
        minutes(x, all);
        searches(x, all);
        counts(x, all);
        for (int n = 0; n < 2; n++) {
            all.add("restore(" + n + ") = " + x.restore(n));
            state("then ", x, all);
            all.add("then preached(-1) = " + x.preached(-1));
        }
        all.add("wipe() = " + x.wipe());
        all.add("forget() = " + x.forget());
        return all;
    }

    private static void state(String when, NodTax x, List<String> all) {
        for (int what = 0; what < 7; what++) {
            all.add(when + "told(" + what + ") = " + x.told(what));
        }
        for (int what = 10; what < 85; what++) {
            if (what % 10 < 5) {
                all.add(when + "told(" + what + ") = " + x.told(what));
            }
        }
    }

    private static void minutes(NodTax x, List<String> all) {
        all.add("fault() = " + x.fault());
        for (int what = 0; what < 5; what++) {
            all.add("sum(-1, " + what + ") = " + x.sum(-1, what));
        }
        for (int h = 0; h < 8; h++) {
            all.add("heard(" + h + ", 2, 0) = " + x.heard(h, 2, 0));
            all.add("dips(" + h + ", 0) = " + x.dips(h, 0));
            all.add("dips(" + h + ", 1) = " + x.dips(h, 1));
        }
        all.add("gain() = " + x.gain());
    }

    private static void searches(NodTax x, List<String> all) {
        for (int what = 0; what < 2; what++) {
            all.add("first(" + what + ") = " + x.first(what));
            all.add("order(" + what + ", -1) = " + x.order(what, -1));
            all.add("order(" + what + ", 0) = " + x.order(what, 0));
            all.add("start(" + what + ") = " + x.start(what));
            all.add("seated(" + what + ") = " + x.seated(what));
            all.add("hired(4, " + what + ") = " + x.hired(4, what));
        }
        all.add("least() = " + x.least());
    }

    private static void counts(NodTax x, List<String> all) {
        for (int i = -1; i < 2; i++) {
            all.add("preached(" + i + ") = " + x.preached(i));
            all.add("alike(" + i + ") = " + x.alike(i));
            all.add("parishes(" + i + ") = " + x.parishes(i));
        }
        all.add("surely() = " + x.surely());
        all.add("cold(3, 1, 0) = " + x.cold(3, 1, 0));
        all.add("cold(3, 0, 0) = " + x.cold(3, 0, 0));
        all.add("year(7, 2, 0) = " + x.year(7, 2, 0));
        all.add("year(7, 2, 1) = " + x.year(7, 2, 1));
    }
}
