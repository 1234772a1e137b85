/** Promises 13 to 17: order, start, seated, hired, least. */
final class OrderTest {
    private static final int[] WILD = {Integer.MIN_VALUE, -1000, -6, -2, 1000, Integer.MAX_VALUE};

    public static void main(String[] args) {
        promise13();
        promise13Refusals();
        promise14();
        promise14Refusals();
        promise15();
        promise15Swap();
        promise15Refusals();
        promise16();
        promise16Refusals();
        promise17();
        promise17Refusals();
        Check.end();
    }

    private static void signs(String when, NodTax x, int what, String due) {
        for (int place = 0; place < due.length(); place++) {
            Check.due("13: " + when + " order(" + what + ", " + place + ")", x.order(what, place), due.charAt(place));
        }
        Check.due("13: " + when + " behind all", x.order(what, due.length()), NodTax.NONE);
    }

    private static void promise13() {
        NodTax x = new NodTax();
        x.hearer(0, 0, 4, 4, 0, false);
        Check.text(x, "ho");
        // "ho": he gives 1 and nods in o; "oh": he gives 2 and nods in h
        Check.due("13: the least TAX", x.order(0, -1), 1);
        signs("of equal TAX the first by codes", x, 0, "ho");
        Check.due("13: the most GAIN", x.order(1, -1), 10001);
        signs("of most GAIN", x, 1, "oh");
        Check.text(x, "oh");
        signs("whatever the order on the PAD", x, 0, "ho");
        x.set(2, 1);
        Check.due("13: nothing seen, no TAX", x.order(0, -1), 0);
        Check.due("13: nothing seen, GAIN", x.order(1, -1), 10002);
        x.set(2, 0);
        x.set(1, 3);
        Check.due("13: at 3 pence", x.order(0, -1), 3);
        Check.due("13: GAIN below nothing", x.order(1, -1), 9999);
        Check.due("13: the PAD stays", x.told(0), 2);
        x.hearer(0, 0, 3, 1, 0, false);
        x.set(1, 1);
        Check.text(x, "~w~w");
        // a w takes him from 3 to 0, so each w is a nod in any order
        Check.due("13: two nods at the least", x.order(0, -1), 2);
        signs("with like signs", x, 0, "ww~~");
    }

    private static void promise13Refusals() {
        NodTax x = new NodTax();
        Check.due("13: of nothing", x.order(0, -1), 0);
        Check.due("13: GAIN of nothing", x.order(1, -1), 10000);
        signs("of nothing", x, 1, "");
        Check.text(x, "ssssssw");
        Check.due("13: seven signs", x.order(0, -1), 0);
        signs("with nobody there", x, 1, "ssssssw");
        for (int v : WILD) {
            Check.due("13: what " + v, x.order(v, -1), NodTax.OUTSIDE);
            Check.due("13: place " + v, x.order(0, v), NodTax.NONE);
        }
        Check.due("13: what -1", x.order(-1, -1), NodTax.OUTSIDE);
        Check.due("13: what 2", x.order(2, -1), NodTax.OUTSIDE);
        x.say('s');
        Check.due("13: eight signs", x.order(0, -1), NodTax.FULL);
        Check.due("13: what ahead of FULL", x.order(2, -1), NodTax.OUTSIDE);
        x.say('*');
        Check.due("13: NO ahead of FULL", x.order(0, -1), NodTax.NO);
        Check.due("13: FULL or NO at any place", x.order(0, 99), NodTax.NO);
    }

    private static void promise14() {
        NodTax x = new NodTax();
        x.hearer(0, 0, 6, 2, 0, false);
        Check.text(x, "wwo");
        // ahead of o he wakes to 2 and gives 2, after one nod; elsewhere he nods twice and gives nothing
        Check.due("14: GAIN", x.start(0), 10001);
        Check.due("14: place", x.start(1), 2);
        Check.due("14: the PAD stays", x.told(0), 3);
        Check.text(x, "cc");
        Check.due("14: no difference", x.start(0), 10000);
        Check.due("14: the first place", x.start(1), 0);
        x.hearer(0, 0, 4, 2, 0, false);
        Check.text(x, "oooo");
        // ahead of the last o: 3, 2, 1, then 3, 2; ahead of all: 4, 3, 2, 1, 0 and a nod
        Check.due("14: 8 of 4 o", x.start(0), 10008);
        Check.due("14: as soon as it helps", x.start(1), 1);
        x.hearer(0, 0, 20, 5, 0, false);
        Check.text(x, "sw");
        Check.due("14: a start there is one ahead", x.start(0), 10000);
    }

    private static void promise14Refusals() {
        NodTax x = new NodTax();
        Check.due("14: on an empty PAD", x.start(0), 10000);
        Check.due("14: place on an empty PAD", x.start(1), 0);
        Check.due("14: what -1", x.start(-1), NodTax.OUTSIDE);
        Check.due("14: what 2", x.start(2), NodTax.OUTSIDE);
        x.hearer(0, 0, 20, 0, 0, false);
        for (int i = 0; i < 59; i++) {
            x.say('h');
        }
        Check.due("14: 59 signs", x.start(0), 10059);
        x.say('h');
        Check.due("14: 60 signs", x.start(0), NodTax.FULL);
        Check.due("14: what ahead of FULL", x.start(2), NodTax.OUTSIDE);
        x.wipe();
        for (int i = 0; i < 60; i++) {
            x.say('%');
        }
        Check.due("14: NO ahead of FULL", x.start(1), NodTax.NO);
    }

    private static void promise15() {
        NodTax x = new NodTax();
        Check.due("15: of nothing", x.seated(0), 0);
        Check.due("15: no change", x.seated(1), NodTax.NONE);
        x.hearer(0, 0, 2, 1, 0, false);
        x.hearer(1, 4, 0, 0, 0, true);
        Check.text(x, "wccc");
        // alone he nods four times; beside the upright one 0 (elbowed to 2), 1, 0, 1
        Check.due("15: now", x.sum(-1, 0), 4);
        Check.due("15: fewest", x.seated(0), 2);
        Check.due("15: which: 0 to 5, not 1 to 1", x.seated(1), 5);
        Check.due("15: he stays in his seat", x.told(10), 0);
        x.hearer(0, 5, 2, 1, 0, false);
        Check.due("15: no fewer", x.seated(0), 2);
        Check.due("15: none", x.seated(1), NodTax.NONE);
        x.hearer(0, 7, 2, 1, 0, false);
        Check.due("15: 0 to 5 again, the seat counts from 0 on", x.seated(1), 5);
    }

    private static void promise15Swap() {
        NodTax x = new NodTax();
        x.church(1);
        x.hearer(4, 0, 0, 0, 0, true);
        x.hearer(5, 1, 20, 0, 0, false);
        x.hearer(6, 2, 2, 1, 0, false);
        x.hearer(7, 3, 2, 1, 0, false);
        Check.text(x, "wc");
        // the one at the end is elbowed by nobody in w; each of the sleepers has somebody when 4 and 6 change
        Check.due("15: now", x.sum(-1, 0), 3);
        Check.due("15: fewest by a change of two", x.seated(0), 2);
        Check.due("15: which", x.seated(1), 402);
        Check.due("15: all stay", x.told(50) + 10 * x.told(60) + 100 * x.told(70) + 1000 * x.told(80), 3210);
    }

    private static void promise15Refusals() {
        NodTax x = new NodTax();
        for (int v : WILD) {
            Check.due("15: what " + v, x.seated(v), NodTax.OUTSIDE);
        }
        Check.due("15: what -1", x.seated(-1), NodTax.OUTSIDE);
        Check.due("15: what 2", x.seated(2), NodTax.OUTSIDE);
        x.say('z');
        Check.due("15: NO", x.seated(1), NodTax.NO);
        Check.due("15: what ahead of NO", x.seated(2), NodTax.OUTSIDE);
    }

    private static void hires(NodTax x, int v, int count, int bits) {
        Check.due("16: hired(" + v + ", 0)", x.hired(v, 0), count);
        Check.due("16: hired(" + v + ", 1)", x.hired(v, 1), bits);
    }

    private static void promise16() {
        NodTax x = new NodTax();
        x.hearer(0, 0, 0, 0, 0, false);
        x.hearer(1, 2, 0, 0, 0, false);
        x.hearer(2, 4, 0, 0, 0, false);
        Check.text(x, "cc");
        hires(x, 999, 0, 0);
        hires(x, 6, 0, 0);
        hires(x, 5, 1, 1);
        hires(x, 4, 1, 1);
        hires(x, 3, 2, 3);
        hires(x, 2, 2, 3);
        hires(x, 1, 3, 7);
        hires(x, 0, 3, 7);
        x.set(2, 1);
        hires(x, 1, 1, 4);
        x.set(2, 0);
        x.hearer(0, 0, 0, 0, 0, true);
        hires(x, 3, 1, 2);
        hires(x, 0, 2, 6);
        Check.due("16: nobody is made upright", x.told(24) + x.told(34), 0);
        x.church(1);
        x.hearer(0, 0, 2, 1, 0, false);
        x.hearer(1, 1, 2, 1, 0, false);
        Check.text(x, "wc");
        // both nod twice; one upright elbows the other to 2, so he nods once
        Check.due("16: now", x.sum(-1, 2), 4);
        hires(x, 1, 1, 1);
        x.church(2);
        for (int h = 0; h < 8; h++) {
            x.hearer(h, h, 0, 0, 0, false);
        }
        Check.text(x, "h");
        hires(x, 7, 1, 1);
        hires(x, 0, 8, 255);
        x.set(1, 0);
        hires(x, 0, 0, 0);
        x.set(1, 1);
        x.church(1);
        x.hearer(0, 0, 9, 5, 0, false);
        Check.text(x, "cc");
        // 9, 4, 0: dull in each minute, and a nod in the second
        hires(x, 0, 1, 1);
    }

    private static void promise16Refusals() {
        NodTax x = new NodTax();
        hires(x, 0, 0, 0);
        for (int v : WILD) {
            Check.due("16: v " + v, x.hired(v, 0), NodTax.OUTSIDE);
            Check.due("16: what " + v, x.hired(0, v), NodTax.OUTSIDE);
        }
        Check.due("16: what -1", x.hired(0, -1), NodTax.OUTSIDE);
        Check.due("16: what 2", x.hired(0, 2), NodTax.OUTSIDE);
        Check.due("16: v -1", x.hired(-1, 0), NodTax.OUTSIDE);
        x.say('z');
        Check.due("16: NO", x.hired(999, 0), NodTax.NO);
        Check.due("16: OUTSIDE ahead of NO", x.hired(1000, 0), NodTax.OUTSIDE);
    }

    private static void promise17() {
        NodTax x = new NodTax();
        Check.due("17: nobody, nothing", x.least(), 1);
        x.hearer(0, 4, 0, 0, 0, false);
        Check.due("17: 0 given, 1 taxed", x.least(), 1);
        for (int others = 1; others <= 3; others++) {
            x.hearer(others, others, 20, 0, 0, false);
            Check.due("17: " + others + " given, 1 taxed", x.least(), others);
        }
        x.hearer(4, 6, 0, 0, 0, false);
        Check.due("17: 3 given, 2 taxed", x.least(), 2);
        Check.due("17: TAX stays", x.told(4), 1);
        x.set(1, 9);
        Check.due("17: whatever TAX is now", x.least(), 2);
        x.set(2, 2);
        Check.due("17: nothing seen", x.least(), NodTax.NONE);
        x.church(2);
        x.hearer(0, 0, 4, 5, 0, false);
        Check.due("17: awake in the first h", x.least(), NodTax.NONE);
        Check.text(x, "h");
        Check.due("17: and nodding in the second", x.least(), 1);
        x.church(2);
        for (int h = 0; h < 8; h++) {
            x.hearer(h, h, h == 7 ? 0 : 20, 0, 0, false);
        }
        Check.text(x, "ww");
        Check.due("17: 7 given, 1 taxed, whatever came ahead", x.least(), 7);
    }

    private static void promise17Refusals() {
        NodTax x = new NodTax();
        for (int i = 0; i < 59; i++) {
            x.say('h');
        }
        Check.due("17: 59 signs", x.least(), 1);
        x.say('h');
        Check.due("17: 60 signs", x.least(), NodTax.FULL);
        x.wipe();
        for (int i = 0; i < 60; i++) {
            x.say('%');
        }
        Check.due("17: NO ahead of FULL", x.least(), NodTax.NO);
    }
}
