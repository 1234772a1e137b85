/** Promises 9 to 12: heard, sum, first, gain. */
final class MinuteTest {
    private static final int[] WILD = {Integer.MIN_VALUE, -1000, -6, -2, 1000, Integer.MAX_VALUE};

    public static void main(String[] args) {
        eachSign();
        bothTogether();
        starts();
        names();
        nodsAndSnores();
        uprights();
        agreeing();
        promise9Refusals();
        promise10();
        promise10Refusals();
        promise11();
        promise12();
        Check.end();
    }

    private static void levels(NodTax x, int hearer, int... due) {
        for (int m = 0; m < due.length; m++) {
            Check.due("9: hearer " + hearer + " behind minute " + m, x.heard(hearer, m, 0), due[m]);
        }
    }

    private static void eachSign() {
        NodTax x = new NodTax();
        x.hearer(0, 0, 20, 1, 0, false);
        Check.text(x, "wwwwhhooccnns~");
        levels(x, 0, 17, 14, 11, 8, 10, 12, 12, 12, 11, 10, 14, 18, 20, 20);
        Check.text(x, "wwww~~s");
        levels(x, 0, 17, 14, 11, 8, 9, 10, 13);
        Check.text(x, "wwwwcnhos~");
        levels(x, 0, 17, 14, 11, 8, 7, 11, 13, 13, 16, 17);
    }

    private static void bothTogether() {
        NodTax x = new NodTax();
        x.hearer(0, 0, 3, 5, 0, false);
        Check.text(x, "h");
        levels(x, 0, 1);
        x.hearer(0, 0, 3, 1, 0, false);
        Check.text(x, "hw");
        levels(x, 0, 3, 0);
        Check.due("9: he nods at 0", x.heard(0, 1, 1), 1);
        Check.due("9: he does not at 3", x.heard(0, 0, 1), 0);
    }

    private static void starts() {
        NodTax x = new NodTax();
        x.church(3);
        x.hearer(0, 3, 20, 5, 0, false);
        x.hearer(1, 4, 20, 5, 0, false);
        x.hearer(2, 8, 20, 5, 0, false);
        Check.text(x, "wwss");
        levels(x, 0, 13, 6, 5, 3);
        levels(x, 1, 13, 6, 3, 0);
        levels(x, 2, 13, 6, 1, 0);
        x.set(0, 9);
        levels(x, 0, 13, 6, 10, 13);
        levels(x, 1, 13, 6, 8, 9);
        levels(x, 2, 13, 6, 6, 5);
        x.set(0, 1);
        levels(x, 0, 13, 6, 2, 0);
        levels(x, 1, 13, 6, 1, 0);
    }

    private static void names() {
        NodTax x = new NodTax();
        x.hearer(7, 0, 20, 5, 0, false);
        x.hearer(2, 7, 20, 5, 0, false);
        x.hearer(5, 3, 20, 5, 0, false);
        Check.text(x, "nnnnc");
        levels(x, 2, 20, 15, 10, 10, 5);
        levels(x, 5, 15, 15, 10, 5, 0);
        levels(x, 7, 15, 10, 10, 5, 0);
        x.leave(2);
        levels(x, 5, 20, 15, 15, 10, 5);
        levels(x, 7, 15, 15, 10, 10, 5);
        Check.text(x, "cncn");
        levels(x, 5, 15, 15, 10, 5);
        levels(x, 7, 15, 10, 5, 5);
    }

    private static void nodsAndSnores() {
        NodTax x = new NodTax();
        x.hearer(0, 0, 3, 5, 0, false);
        x.hearer(1, 1, 3, 5, 0, false);
        x.hearer(2, 2, 3, 5, 0, false);
        x.hearer(3, 3, 20, 0, 0, false);
        x.hearer(4, 4, 3, 5, 0, false);
        Check.text(x, "c");
        int[] nods = {1, 1, 1, 0, 1};
        int[] snores = {0, 1, 0, 0, 0};
        int[] behind = {0, 0, 2, 20, 0};
        for (int h = 0; h < 5; h++) {
            Check.due("9: nods " + h, x.heard(h, 0, 1), nods[h]);
            Check.due("9: agrees " + h, x.heard(h, 0, 2), 0);
            Check.due("9: snores " + h, x.heard(h, 0, 3), snores[h]);
            Check.due("9: behind " + h, x.heard(h, 0, 0), behind[h]);
        }
        x.hearer(2, 2, 1, 5, 0, false);
        Check.due("9: elbowed, AWAKE at most", x.heard(2, 0, 0), 1);
        x.leave(3);
        Check.due("9: an empty seat does not elbow", x.heard(2, 0, 0), 0);
        x.hearer(3, 3, 0, 0, 0, false);
        Check.due("9: two may snore", x.heard(2, 0, 3) + x.heard(1, 0, 3), 2);
        Check.due("9: none at the end of a row", x.heard(3, 0, 3) + x.heard(0, 0, 3), 0);
        x.leave(1);
        Check.due("9: nobody beside him, no snore", x.heard(2, 0, 3), 0);
    }

    private static void uprights() {
        NodTax x = new NodTax();
        x.hearer(0, 0, 0, 0, 1, true);
        x.hearer(1, 1, 4, 5, 1, false);
        Check.text(x, "c");
        Check.due("9: upright, 0 awake", x.heard(0, 0, 0), 0);
        Check.due("9: upright, never nods", x.heard(0, 0, 1), 0);
        Check.due("9: upright, never agrees", x.heard(0, 0, 2), 0);
        Check.due("9: he elbows all the same", x.heard(1, 0, 0), 2);
        Check.due("9: who nods does not agree", x.heard(1, 0, 2), 0);
        Check.text(x, "h");
        Check.due("10: an upright one offers", x.sum(0, 3), 2);
    }

    private static void agreeing() {
        NodTax x = new NodTax();
        x.hearer(0, 0, 9, 0, 1, false);
        x.hearer(1, 1, 9, 0, 0, false);
        Check.text(x, "cw");
        Check.due("9: of CREED 1", x.heard(0, 0, 2), 1);
        Check.due("9: of CREED 0", x.heard(1, 0, 2), 0);
        Check.due("9: only in a minute c", x.heard(0, 1, 2), 0);
    }

    private static void promise9Refusals() {
        NodTax x = new NodTax();
        x.hearer(3, 0, 9, 0, 1, false);
        Check.text(x, "wx");
        Check.due("9: UNKNOWN ahead of what", x.heard(4, 0, 4), NodTax.UNKNOWN);
        Check.due("9: what ahead of NO", x.heard(3, 0, 4), NodTax.OUTSIDE);
        Check.due("9: NO ahead of the minute", x.heard(3, 9, 0), NodTax.NO);
        Check.due("9: a fault behind the minute, too", x.heard(3, 0, 0), NodTax.NO);
        Check.text(x, "ww");
        for (int v : WILD) {
            Check.due("9: hearer " + v, x.heard(v, 0, 0), NodTax.UNKNOWN);
            Check.due("9: minute " + v, x.heard(3, v, 0), NodTax.OUTSIDE);
            Check.due("9: what " + v, x.heard(3, 0, v), NodTax.OUTSIDE);
        }
        Check.due("9: minute -1", x.heard(3, -1, 0), NodTax.OUTSIDE);
        Check.due("9: minute 2 of 2", x.heard(3, 2, 0), NodTax.OUTSIDE);
        Check.due("9: minute 1 of 2", x.heard(3, 1, 0), 5);
        x.wipe();
        Check.due("9: no minute at all", x.heard(3, 0, 0), NodTax.OUTSIDE);
    }

    /** Two rows: a sleeper beside an awake one of CREED 1, and behind them a sleeper alone. */
    private static NodTax threeHeads() {
        NodTax x = new NodTax();
        x.hearer(0, 0, 0, 0, 0, false);
        x.hearer(1, 1, 20, 0, 1, false);
        x.hearer(2, 6, 0, 0, 1, false);
        Check.text(x, "hoc~");
        return x;
    }

    private static void sums(String when, NodTax x, int m, int... due) {
        for (int what = 0; what < due.length; what++) {
            Check.due("10: " + when + " sum(" + m + ", " + what + ")", x.sum(m, what), due[what]);
        }
    }

    private static void promise10() {
        NodTax x = threeHeads();
        sums("", x, 0, 2, 2, 2, 1, 0);
        sums("", x, 1, 4, 4, 4, 3, 0);
        sums("", x, 2, 6, 7, 7, 3, 0);
        sums("", x, 3, 8, 9, 9, 3, 0);
        sums("", x, -1, 8, 9, 9, 3, 0);
        x.set(1, 9);
        sums("at 9 pence", x, 2, 6, 7, 63, 3, 0);
        x.set(2, 1);
        sums("inspector in row 1", x, 2, 6, 7, 27, 3, 0);
        x.set(2, 2);
        sums("inspector behind all", x, 2, 6, 7, 0, 3, 0);
        x.set(2, 0);
        x.set(1, 0);
        sums("untaxed", x, 2, 6, 7, 0, 3, 0);
        x.hearer(3, 5, 0, 0, 0, false);
        x.hearer(4, 7, 0, 0, 0, false);
        sums("with snores", x, -1, 16, 17, 0, 3, 4);
    }

    private static void promise10Refusals() {
        NodTax x = threeHeads();
        for (int v : WILD) {
            Check.due("10: minute " + v, x.sum(v, 0), NodTax.OUTSIDE);
            Check.due("10: what " + v, x.sum(0, v), NodTax.OUTSIDE);
        }
        Check.due("10: minute 4 of 4", x.sum(4, 0), NodTax.OUTSIDE);
        Check.due("10: what -1", x.sum(0, -1), NodTax.OUTSIDE);
        Check.due("10: what 5", x.sum(0, 5), NodTax.OUTSIDE);
        x.say('k');
        Check.due("10: what ahead of NO", x.sum(0, 5), NodTax.OUTSIDE);
        Check.due("10: NO", x.sum(0, 0), NodTax.NO);
        Check.due("10: NO ahead of the minute", x.sum(77, 0), NodTax.NO);
        x.wipe();
        sums("of nothing", x, -1, 0, 0, 0, 0, 0);
        Check.due("10: no minute 0", x.sum(0, 0), NodTax.OUTSIDE);
    }

    private static void promise11() {
        NodTax x = new NodTax();
        Check.due("11: of nothing", x.first(0), NodTax.NONE);
        x.hearer(0, 0, 6, 1, 0, false);
        x.hearer(1, 1, 9, 1, 0, false);
        x.hearer(2, 2, 20, 2, 0, false);
        Check.text(x, "hwwwwc");
        Check.due("11: nods", x.first(0), 2);
        Check.due("11: no snore, elbows wake them", x.first(1), NodTax.NONE);
        x.hearer(2, 2, 9, 1, 0, false);
        x.hearer(0, 0, 9, 1, 0, false);
        Check.due("11: nods together", x.first(0), 3);
        Check.due("11: the first snore", x.first(1), 3);
        x.leave(2);
        x.hearer(2, 4, 0, 0, 0, false);
        Check.due("11: in minute 0", x.first(0), 0);
        x.leave(2);
        Check.text(x, "h");
        Check.due("11: nobody", x.first(0), NodTax.NONE);
        Check.due("11: what -1", x.first(-1), NodTax.OUTSIDE);
        Check.due("11: what 2", x.first(2), NodTax.OUTSIDE);
        x.say('?');
        Check.due("11: NO", x.first(1), NodTax.NO);
        Check.due("11: what ahead of NO", x.first(2), NodTax.OUTSIDE);
    }

    private static void promise12() {
        NodTax x = new NodTax();
        Check.due("12: of nothing", x.gain(), 10000);
        NodTax y = threeHeads();
        Check.due("12: 3 less 9", y.gain(), 9994);
        y.set(1, 9);
        Check.due("12: 3 less 81", y.gain(), 9922);
        y.set(2, 2);
        Check.due("12: 3 less 0", y.gain(), 10003);
        y.say('!');
        Check.due("12: NO", y.gain(), NodTax.NO);
    }
}
