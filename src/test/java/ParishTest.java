/** Promises 24 to 29: parishes, cold, year, image, restore, told. */
final class ParishTest {
    private static final int[] WILD = {Integer.MIN_VALUE, -1000, -6, -2, 10000, Integer.MAX_VALUE};

    public static void main(String[] args) {
        promise24();
        promise24Refusals();
        promise25();
        promise25Refusals();
        promise26();
        promise26Refusals();
        promise27();
        promise28();
        promise29();
        Check.end();
    }

    private static void churches(String when, NodTax x, int rounds, int zero, int one, int two) {
        Check.due("24: " + when + ", rounds", x.parishes(-1), rounds);
        Check.due("24: " + when + ", church 0", x.parishes(0), zero);
        Check.due("24: " + when + ", church 1", x.parishes(1), one);
        Check.due("24: " + when + ", church 2", x.parishes(2), two);
    }

    private static void promise24() {
        NodTax x = new NodTax();
        churches("nobody", x, 1, 0, 0, 0);
        x.hearer(0, 0, 0, 0, 1, false);
        churches("one for hope stays", x, 1, 1, 0, 0);
        x.hearer(0, 0, 0, 0, 0, false);
        churches("one for hell goes", x, 2, 0, 0, 1);
        x.hearer(1, 1, 0, 0, 0, false);
        churches("two for hell", x, 2, 0, 0, 2);
        x.hearer(2, 2, 0, 0, 0, false);
        churches("the third likes 1 and 2 alike", x, 2, 0, 1, 2);
        x.hearer(3, 3, 0, 0, 0, false);
        churches("four for hell", x, 2, 0, 1, 3);
        x.say('y');
        churches("whatever is on the PAD", x, 2, 0, 1, 3);
        x.church(2);
        for (int h = 0; h < 4; h++) {
            x.hearer(h, h, 0, 0, 1, false);
        }
        // 0 likes church 0 by 4 less 3 and church 1 by 2: he goes; then 1 likes 0 by 4 less 2 and stays
        churches("four for hope", x, 2, 3, 1, 0);
    }

    private static void promise24Refusals() {
        NodTax x = new NodTax();
        for (int v : WILD) {
            Check.due("24: parishes(" + v + ")", x.parishes(v), NodTax.OUTSIDE);
        }
        Check.due("24: parishes(3)", x.parishes(3), NodTax.OUTSIDE);
    }

    private static void fraction(NodTax x, int t, int what, long upper, long lower) {
        Check.due("25: cold(" + t + ", " + what + ", 0)", x.cold(t, what, 0), upper);
        Check.due("25: cold(" + t + ", " + what + ", 1)", x.cold(t, what, 1), lower);
    }

    private static void promise25() {
        NodTax x = new NodTax();
        x.hearer(0, 0, 2, 2, 0, false);
        fraction(x, 5, 0, 1, 1);
        fraction(x, 5, 1, 0, 1);
        Check.text(x, "c");
        fraction(x, 3, 0, 3, 10);
        fraction(x, 3, 1, 7, 10);
        fraction(x, 4, 0, 2, 5);
        fraction(x, 0, 0, 0, 1);
        fraction(x, 0, 1, 1, 1);
        fraction(x, 10, 0, 1, 1);
        fraction(x, 10, 1, 0, 1);
        Check.text(x, "cc");
        fraction(x, 5, 0, 1, 4);
        fraction(x, 5, 1, 5, 4);
        Check.text(x, "w");
        // the sign's own 2 less are not cold's matter
        fraction(x, 10, 1, 1, 1);
        Check.text(x, "cccccccccc");
        // awake through all ten minutes only if each is cold; asleep once is asleep for good
        fraction(x, 1, 0, 1, 10000000000L);
        fraction(x, 9, 0, 3486784401L, 10000000000L);
        fraction(x, 0, 1, 10, 1);
        x.hearer(0, 0, 2, 2, 0, true);
        fraction(x, 1, 0, 1, 1);
        Check.due("25: nothing is changed", x.sum(-1, 0), 0);
    }

    private static void promise25Refusals() {
        NodTax x = new NodTax();
        for (int v : WILD) {
            Check.due("25: t " + v, x.cold(v, 0, 0), NodTax.LOST + NodTax.OUTSIDE);
            Check.due("25: what " + v, x.cold(0, v, 0), NodTax.LOST + NodTax.OUTSIDE);
            Check.due("25: part " + v, x.cold(0, 0, v), NodTax.LOST + NodTax.OUTSIDE);
        }
        Check.due("25: t -1", x.cold(-1, 0, 0), NodTax.LOST + NodTax.OUTSIDE);
        Check.due("25: t 11", x.cold(11, 0, 0), NodTax.LOST + NodTax.OUTSIDE);
        Check.due("25: what -1", x.cold(0, -1, 0), NodTax.LOST + NodTax.OUTSIDE);
        Check.due("25: what 2", x.cold(0, 2, 0), NodTax.LOST + NodTax.OUTSIDE);
        Check.due("25: part -1", x.cold(0, 0, -1), NodTax.LOST + NodTax.OUTSIDE);
        Check.due("25: part 2", x.cold(0, 0, 2), NodTax.LOST + NodTax.OUTSIDE);
        Check.text(x, "hhhhhhhhhhh");
        Check.due("25: eleven signs", x.cold(0, 0, 0), NodTax.LOST + NodTax.FULL);
        x.say('y');
        Check.due("25: NO ahead of FULL", x.cold(0, 0, 0), NodTax.LOST + NodTax.NO);
        Check.due("25: OUTSIDE ahead of NO", x.cold(11, 0, 0), NodTax.LOST + NodTax.OUTSIDE);
    }

    private static void years(NodTax x, int seed, int m, int tax, int offerings, int awake) {
        Check.due("26: TAX", x.year(seed, m, 0), tax);
        Check.due("26: OFFERINGS", x.year(seed, m, 1), offerings);
        Check.due("26: SERMONS", x.year(seed, m, 2), awake);
    }

    private static void promise26() {
        NodTax x = new NodTax();
        years(x, 9999, 50, 0, 0, 50);
        x.hearer(0, 0, 20, 0, 1, false);
        x.say('y');
        // from 0: 74, 5624, 28652, 51790, 17641, 12409, which draw c n h c h s
        years(x, 0, 1, 2, 2, 1);
        x.set(1, 7);
        years(x, 0, 1, 14, 2, 1);
        x.set(2, 1);
        years(x, 0, 1, 0, 2, 1);
        x.set(2, 0);
        x.set(1, 1);
        // from 12409 on: 13231, 9344, 45504, 4950, 43639, 61686, which draw h ~ c h h o
        years(x, 0, 2, 3, 7, 2);
        x.hearer(0, 0, 0, 0, 1, false);
        years(x, 0, 2, 12, 0, 0);
        Check.due("26: the PAD stays", x.told(0), 1);
    }

    private static void promise26Refusals() {
        NodTax x = new NodTax();
        for (int v : WILD) {
            Check.due("26: seed " + v, x.year(v, 1, 0), NodTax.OUTSIDE);
            Check.due("26: m " + v, x.year(0, v, 0), NodTax.OUTSIDE);
            Check.due("26: what " + v, x.year(0, 1, v), NodTax.OUTSIDE);
        }
        Check.due("26: seed -1", x.year(-1, 1, 0), NodTax.OUTSIDE);
        Check.due("26: m 0", x.year(0, 0, 0), NodTax.OUTSIDE);
        Check.due("26: m 51", x.year(0, 51, 0), NodTax.OUTSIDE);
        Check.due("26: what -1", x.year(0, 1, -1), NodTax.OUTSIDE);
        Check.due("26: what 3", x.year(0, 1, 3), NodTax.OUTSIDE);
    }

    private static void promise27() {
        NodTax x = new NodTax();
        for (int v : WILD) {
            Check.due("27: image(" + v + ")", x.image(v), NodTax.OUTSIDE);
            Check.due("28: restore(" + v + ")", x.restore(v), NodTax.OUTSIDE);
        }
        Check.due("27: image(-1)", x.image(-1), NodTax.OUTSIDE);
        Check.due("27: image(2)", x.image(2), NodTax.OUTSIDE);
        Check.due("28: restore(-1)", x.restore(-1), NodTax.OUTSIDE);
        Check.due("28: restore(2)", x.restore(2), NodTax.OUTSIDE);
        Check.due("28: not kept", x.restore(1), NodTax.STATE);
        Check.due("27: image(0)", x.image(0), 1);
        Check.due("28: the other is not kept", x.restore(1), NodTax.STATE);
        x.set(0, 9);
        Check.due("27: anew", x.image(0), 1);
        x.set(0, 8);
        Check.due("28: restore(0)", x.restore(0), 1);
        Check.due("27: the later one counts", x.told(3), 9);
    }

    private static void promise28() {
        NodTax x = new NodTax();
        Check.text(x, "h");
        x.church(3);
        x.hearer(5, 11, 2, 2, 1, true);
        x.set(0, 6);
        x.set(1, 7);
        x.set(2, 2);
        x.seen(0, 3);
        x.image(1);
        x.church(1);
        x.hearer(0, 0, 9, 5, 0, false);
        x.set(0, 1);
        x.set(1, 0);
        x.seen(0, 0);
        x.seen(0, 0);
        x.image(0);
        Check.text(x, "ccc");
        Check.due("28: restore(1)", x.restore(1), 1);
        int[] due = {3, 3, 32, 6, 7, 2, 1};
        for (int what = 0; what < due.length; what++) {
            Check.due("28: told(" + what + ")", x.told(what), due[what]);
        }
        int[] his = {11, 2, 2, 1, 1};
        for (int k = 0; k < his.length; k++) {
            Check.due("28: told(" + (60 + k) + ")", x.told(60 + k), his[k]);
        }
        Check.due("28: the sight is the old one", x.preached(-1), 0);
        x.church(3);
        x.hearer(5, 11, 2, 0, 1, false);
        x.seen(1, 1);
        x.image(1);
        x.hearer(5, 10, 2, 0, 0, false);
        x.forget();
        x.seen(59, 1);
        x.restore(1);
        Check.due("28: his creed and the sight's minute are back", x.preached(-1), 1);
        x.hearer(5, 11, 2, 2, 1, true);
        x.image(1);
        x.leave(5);
        x.forget();
        Check.due("28: restore(1) again", x.restore(1), 1);
        Check.due("28: the image is not changed", x.told(2) + x.told(6), 33);
        Check.due("28: restore(0)", x.restore(0), 1);
        Check.due("28: the other one", x.told(2) + 10 * x.told(6), 21);
        Check.due("28: its sights hold", x.preached(-1), 1);
        Check.due("28: the PAD is as it is", x.wipe(), 3);
    }

    private static void promise29() {
        NodTax x = new NodTax();
        x.church(3);
        for (int h = 0; h < 8; h += 7) {
            x.hearer(h, h + 4, 10 + h, h == 0 ? 0 : 5, 1, h == 7);
        }
        x.set(0, 2);
        x.set(1, 3);
        x.set(2, 1);
        x.seen(5, 5);
        x.say('y');
        int[] due = {1, 3, 129, 2, 3, 1, 1, NodTax.OUTSIDE, NodTax.OUTSIDE, NodTax.OUTSIDE, 4, 10, 0, 1, 0};
        for (int what = 0; what < due.length; what++) {
            Check.due("29: told(" + what + ")", x.told(what), due[what]);
        }
        for (int what = 15; what < 80; what++) {
            Check.due("29: told(" + what + ")", x.told(what), NodTax.OUTSIDE);
        }
        int[] last = {11, 17, 5, 1, 1};
        for (int k = 0; k < 5; k++) {
            Check.due("29: told(" + (80 + k) + ")", x.told(80 + k), last[k]);
        }
        for (int what = 85; what < 200; what++) {
            Check.due("29: told(" + what + ")", x.told(what), NodTax.OUTSIDE);
        }
        for (int v : WILD) {
            Check.due("29: told(" + v + ")", x.told(v), NodTax.OUTSIDE);
        }
        Check.due("29: told(-1)", x.told(-1), NodTax.OUTSIDE);
    }
}
