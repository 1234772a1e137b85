/** Promises 1 to 8: a new object, church, hearer, leave, set, say, wipe, fault. */
final class ChurchTest {
    private static final int[] WILD = {Integer.MIN_VALUE, -1000, -6, -1, 1000, Integer.MAX_VALUE};

    public static void main(String[] args) {
        promise1();
        promise2();
        promise3();
        promise3Refusals();
        promise4();
        promise5();
        promise6();
        promise7();
        promise8();
        Check.end();
    }

    private static void promise1() {
        NodTax x = new NodTax();
        int[] due = {0, 2, 0, 4, 1, 0, 0};
        for (int what = 0; what < due.length; what++) {
            Check.due("1: told(" + what + ")", x.told(what), due[what]);
        }
        Check.due("1: wipe", x.wipe(), 0);
        Check.due("1: forget", x.forget(), 0);
        Check.due("1: restore(0)", x.restore(0), NodTax.STATE);
        Check.due("1: restore(1)", x.restore(1), NodTax.STATE);
    }

    private static void promise2() {
        NodTax x = new NodTax();
        Check.due("2: church(3)", x.church(3), 2);
        x.hearer(4, 11, 5, 1, 1, true);
        x.seen(0, 1);
        x.set(0, 7);
        x.set(1, 6);
        x.set(2, 2);
        x.say('w');
        Check.due("2: church(0)", x.church(0), NodTax.OUTSIDE);
        Check.due("2: church(4)", x.church(4), NodTax.OUTSIDE);
        for (int v : WILD) {
            Check.due("2: church(" + v + ")", x.church(v), NodTax.OUTSIDE);
        }
        Check.due("2: refused, he stays", x.told(2), 16);
        Check.due("2: refused, the inspector stays", x.told(5), 2);
        Check.due("2: the same rows again", x.church(3), 3);
        int[] due = {1, 3, 0, 7, 6, 0, 0};
        for (int what = 0; what < due.length; what++) {
            Check.due("2: told(" + what + ")", x.told(what), due[what]);
        }
        Check.due("2: church(1)", x.church(1), 3);
        Check.due("2: seat 3 of one row", x.hearer(0, 3, 1, 1, 1, false), 1);
        Check.due("2: no seat 4 of one row", x.hearer(1, 4, 1, 1, 1, false), NodTax.UNKNOWN);
        Check.due("2: church(2)", x.church(2), 1);
        Check.due("2: nobody is upright from before", x.hearer(4, 7, 0, 0, 0, false), 1);
        Check.due("2: he nods", x.heard(4, 0, 1), 1);
    }

    private static void promise3() {
        NodTax x = new NodTax();
        Check.due("3: the first", x.hearer(7, 7, 20, 5, 1, true), 1);
        Check.due("3: the second", x.hearer(0, 0, 0, 0, 0, false), 2);
        int[] due = {7, 20, 5, 1, 1};
        for (int k = 0; k < 5; k++) {
            Check.due("3: told(" + (80 + k) + ")", x.told(80 + k), due[k]);
            Check.due("3: told(" + (10 + k) + ")", x.told(10 + k), 0);
        }
        Check.due("3: anew in his own seat", x.hearer(7, 7, 3, 2, 0, false), 2);
        Check.due("3: anew in another", x.hearer(7, 6, 3, 2, 0, false), 2);
        Check.due("3: his old seat is free", x.hearer(3, 7, 9, 1, 1, false), 3);
        Check.due("3: seat", x.told(80), 6);
        Check.due("3: awake", x.told(81), 3);
        Check.due("3: dull", x.told(82), 2);
        Check.due("3: creed", x.told(83), 0);
        Check.due("3: upright no more", x.told(84), 0);
    }

    private static void promise3Refusals() {
        NodTax x = new NodTax();
        x.hearer(2, 5, 4, 1, 0, false);
        Check.due("3: another one sits there", x.hearer(3, 5, 4, 1, 0, false), NodTax.STATE);
        Check.due("3: OUTSIDE ahead of STATE", x.hearer(3, 5, 21, 1, 0, false), NodTax.OUTSIDE);
        Check.due("3: UNKNOWN ahead of OUTSIDE", x.hearer(8, 5, 21, 1, 0, false), NodTax.UNKNOWN);
        Check.due("3: UNKNOWN seat ahead of OUTSIDE", x.hearer(3, 8, 21, 1, 0, false), NodTax.UNKNOWN);
        Check.due("3: awake -1", x.hearer(3, 6, -1, 0, 0, false), NodTax.OUTSIDE);
        Check.due("3: dull -1", x.hearer(3, 6, 0, -1, 0, false), NodTax.OUTSIDE);
        Check.due("3: dull 6", x.hearer(3, 6, 0, 6, 0, false), NodTax.OUTSIDE);
        Check.due("3: creed -1", x.hearer(3, 6, 0, 0, -1, false), NodTax.OUTSIDE);
        Check.due("3: creed 2", x.hearer(3, 6, 0, 0, 2, false), NodTax.OUTSIDE);
        for (int v : WILD) {
            Check.due("3: hearer " + v, x.hearer(v, 6, 0, 0, 0, false), NodTax.UNKNOWN);
            Check.due("3: seat " + v, x.hearer(3, v, 0, 0, 0, false), NodTax.UNKNOWN);
            Check.due("3: awake " + v, x.hearer(3, 6, v, 0, 0, false), NodTax.OUTSIDE);
            Check.due("3: dull " + v, x.hearer(3, 6, 0, v, 0, false), NodTax.OUTSIDE);
            Check.due("3: creed " + v, x.hearer(3, 6, 0, 0, v, false), NodTax.OUTSIDE);
        }
        Check.due("3: refused, only one is there", x.told(2), 4);
        Check.due("3: in his seat", x.told(30), 5);
    }

    private static void promise4() {
        NodTax x = new NodTax();
        x.hearer(2, 5, 4, 1, 0, true);
        x.hearer(6, 1, 4, 1, 0, false);
        Check.due("4: nobody of that number", x.leave(3), NodTax.UNKNOWN);
        for (int v : WILD) {
            Check.due("4: leave(" + v + ")", x.leave(v), NodTax.UNKNOWN);
        }
        Check.due("4: leave(8)", x.leave(8), NodTax.UNKNOWN);
        Check.due("4: leave(2)", x.leave(2), 1);
        Check.due("4: twice", x.leave(2), NodTax.UNKNOWN);
        Check.due("4: who is there", x.told(2), 64);
        Check.due("4: nothing is told of him", x.told(30), NodTax.OUTSIDE);
        Check.due("4: his seat is free", x.hearer(0, 5, 1, 1, 1, false), 2);
        Check.due("4: leave(6)", x.leave(6), 1);
        Check.due("4: leave(0)", x.leave(0), 0);
    }

    private static void promise5() {
        NodTax x = new NodTax();
        int[] atFirst = {4, 1, 0};
        int[] low = {1, 0, 0};
        int[] high = {9, 9, 2};
        for (int which = 0; which < 3; which++) {
            Check.due("5: below", x.set(which, low[which] - 1), NodTax.OUTSIDE);
            Check.due("5: above", x.set(which, high[which] + 1), NodTax.OUTSIDE);
            for (int v : WILD) {
                Check.due("5: set(" + which + ", " + v + ")", x.set(which, v), NodTax.OUTSIDE);
            }
            Check.due("5: to the least", x.set(which, low[which]), atFirst[which]);
            Check.due("5: to the most", x.set(which, high[which]), low[which]);
            Check.due("5: told", x.told(3 + which), high[which]);
        }
        for (int which : WILD) {
            Check.due("5: which " + which, x.set(which, 1), NodTax.OUTSIDE);
        }
        Check.due("5: which 3", x.set(3, 1), NodTax.OUTSIDE);
        Check.due("5: all stay", x.told(3) * 100 + x.told(4) * 10 + x.told(5), 992);
    }

    private static void promise6() {
        NodTax x = new NodTax();
        Check.due("6: code 32", x.say(32), NodTax.OUTSIDE);
        Check.due("6: code 127", x.say(127), NodTax.OUTSIDE);
        Check.due("6: code 33", x.say(33), 1);
        Check.due("6: code 126", x.say(126), 2);
        for (int v : WILD) {
            Check.due("6: say(" + v + ")", x.say(v), NodTax.OUTSIDE);
        }
        for (int i = 3; i <= 60; i++) {
            Check.due("6: sign " + i, x.say('w'), i);
        }
        Check.due("6: sign 61", x.say('w'), NodTax.FULL);
        Check.due("6: OUTSIDE ahead of FULL", x.say(32), NodTax.OUTSIDE);
        Check.due("6: sixty are there", x.told(0), 60);
    }

    private static void promise7() {
        NodTax x = new NodTax();
        x.hearer(0, 0, 1, 1, 1, false);
        x.say('w');
        x.say('x');
        Check.due("7: wipe", x.wipe(), 2);
        Check.due("7: wipe again", x.wipe(), 0);
        Check.due("7: no signs", x.told(0), 0);
        Check.due("7: no fault", x.fault(), NodTax.NONE);
        Check.due("7: he stays", x.told(2), 1);
        Check.due("7: from the beginning", x.say('h'), 1);
    }

    private static void promise8() {
        NodTax x = new NodTax();
        Check.due("8: an empty PAD", x.fault(), NodTax.NONE);
        Check.text(x, "whoncs~");
        Check.due("8: every sign may stand, even a name with nobody there", x.fault(), NodTax.NONE);
        x.say('x');
        x.say('W');
        Check.due("8: the first of two", x.fault(), 7);
        for (int code = 33; code <= 126; code++) {
            x.wipe();
            x.say('h');
            x.say(code);
            boolean may = "whoncs~".indexOf(code) >= 0;
            Check.due("8: code " + code, x.fault(), may ? NodTax.NONE : 1);
        }
        x.wipe();
        for (int i = 0; i < 59; i++) {
            x.say('o');
        }
        x.say('!');
        Check.due("8: the last place", x.fault(), 59);
    }
}
