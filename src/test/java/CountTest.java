/** Promises 18 to 23: seen, forget, preached, surely, dips, alike. */
final class CountTest {
    private static final int[] WILD = {Integer.MIN_VALUE, -1000, -6, -2, 1000, Integer.MAX_VALUE};

    public static void main(String[] args) {
        promise18();
        promise19();
        promise20();
        promise20Different();
        promise20Refusals();
        promise21();
        promise22();
        promise22Refusals();
        promise23();
        promise23LongSermon();
        Check.end();
    }

    private static void promise18() {
        NodTax x = new NodTax();
        Check.due("18: minute -1", x.seen(-1, 0), NodTax.OUTSIDE);
        Check.due("18: minute 60", x.seen(60, 0), NodTax.OUTSIDE);
        Check.due("18: dips -1", x.seen(0, -1), NodTax.OUTSIDE);
        Check.due("18: dips 9", x.seen(0, 9), NodTax.OUTSIDE);
        for (int v : WILD) {
            Check.due("18: minute " + v, x.seen(v, 0), NodTax.OUTSIDE);
            Check.due("18: dips " + v, x.seen(0, v), NodTax.OUTSIDE);
        }
        Check.due("18: the least", x.seen(0, 0), 1);
        Check.due("18: the most", x.seen(59, 8), 2);
        for (int i = 3; i <= 8; i++) {
            Check.due("18: the same again", x.seen(59, 8), i);
        }
        Check.due("18: a ninth", x.seen(0, 0), NodTax.FULL);
        Check.due("18: OUTSIDE ahead of FULL", x.seen(60, 0), NodTax.OUTSIDE);
        Check.due("18: told", x.told(6), 8);
    }

    private static void promise19() {
        NodTax x = new NodTax();
        Check.due("19: none", x.forget(), 0);
        x.seen(3, 1);
        x.seen(4, 1);
        Check.due("19: two", x.forget(), 2);
        Check.due("19: told", x.told(6), 0);
        Check.due("19: gone", x.forget(), 0);
        Check.due("19: all orders fit again", x.preached(-1), 1);
    }

    /** One who nods in the w, and in no h. */
    private static NodTax sleeper() {
        NodTax x = new NodTax();
        x.hearer(0, 0, 3, 1, 0, false);
        return x;
    }

    private static void promise20() {
        NodTax x = sleeper();
        Check.text(x, "whh");
        Check.due("20: without sights", x.preached(-1), 3);
        Check.due("20: the first by codes", x.preached(0), 'h');
        x.seen(1, 1);
        Check.due("20: one dip in minute 1", x.preached(-1), 1);
        Check.due("20: place 0", x.preached(0), 'h');
        Check.due("20: place 1", x.preached(1), 'w');
        Check.due("20: place 2", x.preached(2), 'h');
        Check.due("20: place 3", x.preached(3), NodTax.NONE);
        x.set(2, 2);
        Check.due("20: all heads, seen by the inspector or not", x.preached(-1), 1);
        x.seen(2, 0);
        Check.due("20: two that agree", x.preached(-1), 1);
        x.seen(1, 0);
        Check.due("20: two that do not", x.preached(-1), 0);
        Check.due("20: no first", x.preached(0), NodTax.NONE);
        x.forget();
        x.seen(3, 0);
        Check.due("20: a minute that there is not", x.preached(-1), 0);
        x.say('h');
        Check.due("20: and now there is", x.preached(-1), 3);
        x.forget();
        x.hearer(1, 2, 20, 0, 1, false);
        Check.text(x, "cw");
        x.seen(0, 1);
        // the one agrees in c, the other nods in w: "cw" and "wc" both begin with one dip
        Check.due("20: agreeing is a dip", x.preached(-1), 2);
        x.seen(1, 2);
        Check.due("20: asleep since w", x.preached(-1), 1);
        Check.due("20: w was first", x.preached(0), 'w');
    }

    private static void promise20Different() {
        NodTax x = new NodTax();
        Check.due("20: of nothing, one order", x.preached(-1), 1);
        Check.due("20: without a sign", x.preached(0), NodTax.NONE);
        Check.text(x, "wwwwww");
        Check.due("20: like signs, one order", x.preached(-1), 1);
        Check.text(x, "whoncs");
        Check.due("20: six different ones", x.preached(-1), 720);
        for (int place = 0; place < 6; place++) {
            Check.due("20: by codes", x.preached(place), "chnosw".charAt(place));
        }
        Check.text(x, "whwhwh");
        Check.due("20: three and three", x.preached(-1), 20);
    }

    private static void promise20Refusals() {
        NodTax x = new NodTax();
        Check.text(x, "whoncs");
        for (int v : WILD) {
            Check.due("20: place " + v, x.preached(v), NodTax.NONE);
        }
        x.say('~');
        Check.due("20: seven signs", x.preached(-1), NodTax.FULL);
        Check.due("20: FULL at any place", x.preached(99), NodTax.FULL);
        Check.due("21: seven signs", x.surely(), NodTax.FULL);
        x.say('y');
        Check.due("20: NO ahead of FULL", x.preached(-1), NodTax.NO);
        Check.due("21: NO ahead of FULL", x.surely(), NodTax.NO);
    }

    private static void promise21() {
        NodTax x = sleeper();
        Check.due("21: of nothing", x.surely(), 0);
        Check.text(x, "whh");
        Check.due("21: no place is sure", x.surely(), 0);
        x.seen(2, 1);
        Check.due("21: one order, all places", x.surely(), 7);
        x.forget();
        x.seen(0, 0);
        Check.due("21: h first, the rest open", x.surely(), 1);
        x.seen(0, 5);
        Check.due("21: none fits", x.surely(), 0);
        x.forget();
        Check.text(x, "hhhhhh");
        Check.due("21: like signs", x.surely(), 63);
    }

    private static void promise22() {
        NodTax x = new NodTax();
        x.hearer(0, 0, 3, 1, 1, false);
        x.hearer(1, 4, 3, 1, 1, true);
        Check.text(x, "cwcc~hc");
        // 2 (agrees), 0, 0, 0 (nods), 1, 3, 2 (agrees)
        Check.due("22: dips", x.dips(0, 0), 1 + 2 + 4 + 8 + 64);
        Check.due("22: by agreeing", x.dips(0, 1), 1 + 64);
        Check.due("22: upright", x.dips(1, 0), 0);
        x.set(2, 2);
        Check.due("22: seen or not", x.dips(0, 0), 79);
        x.hearer(2, 1, 20, 0, 1, false);
        x.wipe();
        Check.due("22: of nothing", x.dips(2, 0), 0);
        for (int i = 0; i < 60; i++) {
            x.say('c');
        }
        Check.due("22: the first 30 minutes", x.dips(2, 0), (1 << 30) - 1);
        Check.due("22: all by agreeing", x.dips(2, 1), (1 << 30) - 1);
    }

    private static void promise22Refusals() {
        NodTax x = sleeper();
        for (int v : WILD) {
            Check.due("22: hearer " + v, x.dips(v, 0), NodTax.UNKNOWN);
            Check.due("22: what " + v, x.dips(0, v), NodTax.OUTSIDE);
        }
        Check.due("22: what -1", x.dips(0, -1), NodTax.OUTSIDE);
        Check.due("22: what 2", x.dips(0, 2), NodTax.OUTSIDE);
        Check.due("22: UNKNOWN ahead of OUTSIDE", x.dips(1, 2), NodTax.UNKNOWN);
        x.say('y');
        Check.due("22: NO", x.dips(0, 0), NodTax.NO);
        Check.due("22: OUTSIDE ahead of NO", x.dips(0, 2), NodTax.OUTSIDE);
    }

    private static void promise23() {
        NodTax x = new NodTax();
        Check.due("23: nobody", x.alike(-1), 0);
        Check.due("23: no pair", x.alike(0), NodTax.NONE);
        x.hearer(1, 0, 0, 0, 0, false);
        Check.due("23: one alone", x.alike(-1), 0);
        x.hearer(3, 4, 20, 0, 1, false);
        x.hearer(6, 7, 0, 0, 1, false);
        x.hearer(7, 2, 20, 0, 0, false);
        Check.text(x, "c");
        // 1 and 6 nod, 3 agrees: all three dip; 7 does not
        Check.due("23: three twos", x.alike(-1), 3);
        Check.due("23: 1 and 3", x.alike(0), 13);
        Check.due("23: 1 and 6", x.alike(1), 16);
        Check.due("23: 3 and 6", x.alike(2), 36);
        Check.due("23: no more", x.alike(3), NodTax.NONE);
        x.leave(7);
        x.hearer(0, 2, 0, 0, 0, false);
        x.hearer(2, 1, 0, 0, 0, false);
        Check.due("23: ten twos of five", x.alike(-1), 10);
        int[] twos = {1, 2, 3, 6, 12, 13, 16, 23, 26, 36};
        for (int i = 0; i < twos.length; i++) {
            Check.due("23: alike(" + i + ")", x.alike(i), twos[i]);
        }
        x.leave(0);
        x.leave(2);
        x.hearer(7, 2, 20, 0, 0, false);
        Check.text(x, "h");
        Check.due("23: never is alike, too", x.alike(-1), 2);
        Check.due("23: 1 and 6 nod", x.alike(0), 16);
        Check.due("23: 3 and 7 never dip", x.alike(1), 37);
        for (int v : WILD) {
            Check.due("23: alike(" + v + ")", x.alike(v), NodTax.NONE);
        }
        x.wipe();
        Check.due("23: of nothing all are", x.alike(-1), 6);
        x.say('y');
        Check.due("23: NO", x.alike(-1), NodTax.NO);
        Check.due("23: NO at any i", x.alike(99), NodTax.NO);
    }

    private static void promise23LongSermon() {
        NodTax x = new NodTax();
        x.hearer(0, 0, 20, 0, 0, false);
        x.hearer(1, 2, 20, 0, 1, false);
        for (int i = 0; i < 59; i++) {
            x.say('h');
        }
        Check.due("23: alike so far", x.alike(-1), 1);
        x.say('c');
        Check.due("23: not in the last minute of sixty", x.alike(-1), 0);
        Check.due("23: though their first thirty are", x.dips(0, 0) - x.dips(1, 0), 0);
    }
}
