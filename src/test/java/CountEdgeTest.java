/** The boundary cases of promises 18 to 23, sentence by sentence. */
final class CountEdgeTest {
    private static final Edge.Making SLEEPERS = x -> {
        for (int h = 0; h < 8; h++) {
            x.hearer(h, h, 0, 0, 0, false);
        }
    };
    private static final Edge.Making EIGHT_SIGHTS = x -> {
        for (int i = 0; i < 8; i++) {
            x.seen(i, 8 - i);
        }
    };
    /** One who NODS in a w, and in no h. */
    private static final Edge.Making DOZER = x -> x.hearer(0, 0, 3, 1, 0, false);
    private static final Edge.Making FAULTY = Edge.SOME.and(Edge.text("whx"));
    private static final Edge.Making FAULTY_FULL = Edge.SOME.and(Edge.text("h".repeat(59) + "x"));

    public static void main(String[] args) {
        seenMinute();
        seenDips();
        seenFull();
        seenFirstRefusal();
        seenWhateverIsOnThePad();
        forgetNoneAndAll();
        preachedPlace();
        preachedEmptyPad();
        preachedMinuteThatThereIsNot();
        preachedNoneFits();
        preachedDifferentOnes();
        preachedAllHeads();
        preachedAllSights();
        preachedFull();
        preachedFirstRefusal();
        surelyEnds();
        surelyFull();
        surelyFirstRefusal();
        dipsUnknown();
        dipsWhat();
        dipsEmptyPad();
        dipsThoseByAgreeing();
        dipsThirtyMinutes();
        dipsFirstRefusal();
        alikeHowMany();
        alikeNone();
        alikeWholeSermon();
        alikeAcrossWords();
        alikeNo();
        Check.end();
    }

    // ---- promises 18 and 19

    private static void seenMinute() {
        Edge.says("18 OUTSIDE: the minute (0 to 59)");
        Edge.due("minute 0", new NodTax().seen(0, 1), 1);
        Edge.due("minute 59", new NodTax().seen(59, 1), 1);
        Edge.refusedBeyond(Edge.NOTHING, "minute", 0, 59, NodTax.OUTSIDE, (x, v) -> x.seen(v, 1));
        Edge.refusedBeyond(Edge.SOME, "minute", 0, 59, NodTax.OUTSIDE, (x, v) -> x.seen(v, 1));
    }

    private static void seenDips() {
        Edge.says("18 OUTSIDE: DIPS 0 to 8");
        Edge.due("dips 0", new NodTax().seen(0, 0), 1);
        Edge.due("dips 8", new NodTax().seen(0, 8), 1);
        Edge.refusedBeyond(Edge.NOTHING, "dips", 0, 8, NodTax.OUTSIDE, (x, v) -> x.seen(0, v));
        Edge.refusedBeyond(Edge.SOME, "dips", 0, 8, NodTax.OUTSIDE, (x, v) -> x.seen(0, v));
    }

    private static void seenFull() {
        Edge.says("18 FULL (SIGHTS, 8 at most)");
        NodTax x = new NodTax();
        for (int i = 1; i <= 8; i++) {
            Edge.due("sight " + i, x.seen(0, 0), i);
        }
        Edge.due("a ninth", x.seen(0, 0), NodTax.FULL);
        Edge.refused(EIGHT_SIGHTS, "a ninth", NodTax.FULL, y -> y.seen(0, 0));
        Edge.refused(EIGHT_SIGHTS, "one that is there already", NodTax.FULL, y -> y.seen(0, 8));
        Edge.refused(Edge.MOST, "a ninth", NodTax.FULL, y -> y.seen(59, 8));
    }

    private static void seenFirstRefusal() {
        Edge.says("18 OUTSIDE; FULL, the first of these");
        Edge.refusedBeyond(EIGHT_SIGHTS, "minute, full", 0, 59, NodTax.OUTSIDE, (x, v) -> x.seen(v, 0));
        Edge.refusedBeyond(EIGHT_SIGHTS, "dips, full", 0, 8, NodTax.OUTSIDE, (x, v) -> x.seen(0, v));
        Edge.refusedBeyond(Edge.MOST, "dips, full", 0, 8, NodTax.OUTSIDE, (x, v) -> x.seen(0, v));
    }

    private static void seenWhateverIsOnThePad() {
        Edge.says("18 a SIGHT more");
        NodTax x = Edge.made(FAULTY);
        Edge.due("with a fault, of a minute that there is not", x.seen(59, 8), 3);
        Edge.due("told", x.told(6), 3);
    }

    private static void forgetNoneAndAll() {
        Edge.says("19 SIGHTS go: how many there were");
        Edge.asked(Edge.NOTHING, "none", 0, x -> x.forget());
        NodTax x = Edge.made(Edge.MOST);
        Edge.due("all eight", x.forget(), 8);
        Edge.due("twice", x.forget(), 0);
        int[] due = {60, 3, 255, 9, 9, 2, 0};
        for (int what = 0; what < due.length; what++) {
            Edge.due("the rest stays, told(" + what + ")", x.told(what), due[what]);
        }
        Check.text(x, "wh");
        Edge.due("all orders fit", x.preached(-1), 2);
        for (int i = 1; i <= 8; i++) {
            Edge.due("room again", x.seen(0, 0), i);
        }
        Edge.due("and full again", x.seen(0, 0), NodTax.FULL);
    }

    // ---- promise 20

    private static void preachedPlace() {
        Edge.says("20 how many (place = -1), the sign at a place of the first; NONE");
        Edge.Making six = Edge.text("~wsonh");
        Edge.asked(six, "how many", 720, x -> x.preached(-1));
        for (int place = 0; place < 6; place++) {
            int p = place;
            Edge.asked(six, "place " + p, "hnosw~".charAt(p), x -> x.preached(p));
        }
        int[] places = {-2, 6, 7, 60, -65536, 65536, Integer.MIN_VALUE, Integer.MAX_VALUE};
        for (int p : places) {
            Edge.asked(six, "place " + p, NodTax.NONE, x -> x.preached(p));
        }
        Edge.asked(Edge.text("w"), "the only place", 'w', x -> x.preached(0));
        Edge.asked(Edge.text("w"), "behind it", NodTax.NONE, x -> x.preached(1));
        NodTax x = Edge.made(six);
        x.preached(-1);
        Check.text(x, "w");
        Edge.due("behind a longer one", x.preached(1), NodTax.NONE);
    }

    private static void preachedEmptyPad() {
        Edge.says("20 the empty PAD");
        Edge.asked(SLEEPERS, "one order", 1, x -> x.preached(-1));
        Edge.asked(SLEEPERS, "without a sign", NodTax.NONE, x -> x.preached(0));
        Edge.Making seen = SLEEPERS.and(x -> x.seen(0, 8));
        Edge.asked(seen, "no minute 0 to be seen", 0, x -> x.preached(-1));
        Edge.asked(seen, "nor a sign", NodTax.NONE, x -> x.preached(0));
        Edge.asked(x -> x.seen(0, 0), "none seen in no minute", 0, x -> x.preached(-1));
    }

    private static void preachedMinuteThatThereIsNot() {
        Edge.says("20 (a SIGHT of a minute that there is not does not)");
        Edge.Making six = SLEEPERS.and(Edge.text("hhhhhh"));
        Edge.asked(six.and(x -> x.seen(5, 8)), "the last of six", 1, x -> x.preached(-1));
        Edge.asked(six.and(x -> x.seen(6, 8)), "behind the last", 0, x -> x.preached(-1));
        Edge.asked(six.and(x -> x.seen(6, 0)), "behind the last, none", 0, x -> x.preached(-1));
        Edge.asked(six.and(x -> x.seen(59, 8)), "minute 59", 0, x -> x.preached(-1));
        Edge.Making both = six.and(x -> x.seen(0, 8)).and(x -> x.seen(6, 8));
        Edge.asked(both, "one holds, one does not", 0, x -> x.preached(-1));
        Edge.asked(both, "no first", NodTax.NONE, x -> x.preached(0));
    }

    private static void preachedNoneFits() {
        Edge.says("20 none fits");
        Edge.Making none = DOZER.and(Edge.text("whh")).and(x -> x.seen(0, 2));
        Edge.asked(none, "how many", 0, x -> x.preached(-1));
        for (int place = 0; place < 4; place++) {
            int p = place;
            Edge.asked(none, "place " + p, NodTax.NONE, x -> x.preached(p));
        }
        Edge.Making two = DOZER.and(Edge.text("whh")).and(x -> x.seen(1, 1)).and(x -> x.seen(1, 0));
        Edge.asked(two, "two of one minute that are not the same", 0, x -> x.preached(-1));
    }

    private static void preachedDifferentOnes() {
        Edge.says("20 (different ones)");
        Edge.asked(Edge.text("hhhhhh"), "all alike", 1, x -> x.preached(-1));
        Edge.asked(Edge.text("hhhhhw"), "all but one", 6, x -> x.preached(-1));
        Edge.asked(Edge.text("hhhwww"), "three and three", 20, x -> x.preached(-1));
        Edge.asked(Edge.text("whoncs"), "none alike", 720, x -> x.preached(-1));
    }

    private static void preachedAllHeads() {
        Edge.says("20 so many DIPS were counted, all heads");
        Edge.Making eight = SLEEPERS.and(Edge.text("c"));
        for (int dips = 0; dips <= 8; dips++) {
            int d = dips;
            Edge.asked(eight.and(x -> x.seen(0, d)), d + " of 8", d == 8 ? 1 : 0, x -> x.preached(-1));
            Edge.asked(Edge.text("c").and(x -> x.seen(0, d)), d + " of nobody", d == 0 ? 1 : 0, x -> x.preached(-1));
        }
        Edge.Making unseen = eight.and(x -> x.set(2, 2)).and(x -> x.seen(0, 8));
        Edge.asked(unseen, "whether the INSPECTOR sees them or not", 1, x -> x.preached(-1));
    }

    private static void preachedAllSights() {
        Edge.says("20 by which all SIGHTS hold");
        Edge.Making dozer = DOZER.and(Edge.text("whhhhh"));
        Edge.Making seven = dozer.and(x -> {
            for (int i = 0; i < 7; i++) {
                x.seen(i % 5, 0);
            }
        });
        Edge.asked(seven, "seven", 1, x -> x.preached(-1));
        Edge.asked(seven, "w was the last", 'w', x -> x.preached(5));
        Edge.asked(seven.and(x -> x.seen(5, 1)), "the eighth holds", 1, x -> x.preached(-1));
        Edge.asked(seven.and(x -> x.seen(5, 0)), "the eighth does not", 0, x -> x.preached(-1));
    }

    private static void preachedFull() {
        Edge.says("20 FULL: more than 6");
        for (int count : new int[] {7, 8, 59, 60}) {
            Edge.Making many = Edge.SOME.and(Edge.text("h".repeat(count)));
            Edge.refused(many, count + " signs", NodTax.FULL, x -> x.preached(-1));
            Edge.refused(many, count + " signs, a place", NodTax.FULL, x -> x.preached(0));
            Edge.refused(many, count + " signs, no place", NodTax.FULL, x -> x.preached(60));
        }
    }

    private static void preachedFirstRefusal() {
        Edge.says("20 NO; FULL, the first of these");
        Edge.refused(FAULTY_FULL, "both", NodTax.NO, x -> x.preached(-1));
        Edge.refused(Edge.text("hhhhhhx"), "the seventh is a fault", NodTax.NO, x -> x.preached(-1));
        Edge.refused(FAULTY, "a fault", NodTax.NO, x -> x.preached(-1));
        Edge.refused(FAULTY, "a fault, a place", NodTax.NO, x -> x.preached(0));
        Edge.refused(FAULTY, "a fault, no place", NodTax.NO, x -> x.preached(-2));
        Edge.refused(Edge.text("x").and(x -> x.seen(5, 5)), "a fault, none fits", NodTax.NO, x -> x.preached(-1));
    }

    // ---- promise 21

    private static void surelyEnds() {
        Edge.says("21 places, as bits");
        Edge.asked(SLEEPERS, "the empty PAD", 0, y -> y.surely());
        Edge.asked(SLEEPERS.and(y -> y.seen(0, 8)), "the empty PAD, none fits", 0, y -> y.surely());
        Edge.asked(Edge.text("w"), "one sign", 1, y -> y.surely());
        Edge.asked(Edge.text("hhhhhh"), "six alike", 63, y -> y.surely());
        Edge.asked(Edge.text("hhhhhw"), "no place is sure", 0, y -> y.surely());
        Edge.Making dozer = DOZER.and(Edge.text("whh"));
        Edge.asked(dozer.and(y -> y.seen(0, 0)), "the first", 1, y -> y.surely());
        Edge.asked(dozer.and(y -> y.seen(2, 1)), "all three", 7, y -> y.surely());
        Edge.asked(dozer.and(y -> y.seen(0, 2)), "none fits", 0, y -> y.surely());
        // where nobody dips, there w was not, and an h is all that is left
        Edge.Making last = DOZER.and(Edge.text("hhhhhw")).and(y -> y.seen(5, 0));
        Edge.asked(last, "the last", 32, y -> y.surely());
        NodTax x = Edge.made(dozer);
        x.seen(2, 1);
        Edge.due("one fits", x.surely(), 7);
        x.seen(2, 0);
        Edge.due("none any more", x.surely(), 0);
    }

    private static void surelyFull() {
        Edge.says("21 FULL, likewise");
        for (int count : new int[] {7, 8, 60}) {
            Edge.refused(Edge.SOME.and(Edge.text("h".repeat(count))), count + " signs", NodTax.FULL, x -> x.surely());
        }
    }

    private static void surelyFirstRefusal() {
        Edge.says("21 NO; FULL, the first of these");
        Edge.refused(FAULTY_FULL, "both", NodTax.NO, x -> x.surely());
        Edge.refused(Edge.text("hhhhhhx"), "the seventh is a fault", NodTax.NO, x -> x.surely());
        Edge.refused(FAULTY, "a fault", NodTax.NO, x -> x.surely());
    }

    // ---- promise 22

    private static void dipsUnknown() {
        Edge.says("22 UNKNOWN");
        Edge.alwaysRefusedBeyond("dips", 0, 7, NodTax.UNKNOWN, (x, v) -> x.dips(v, 0));
        Edge.refused(Edge.SOME, "who is not there", NodTax.UNKNOWN, x -> x.dips(2, 0));
        Edge.refused(Edge.MOST, "dips(32, 0)", NodTax.UNKNOWN, x -> x.dips(32, 0));
    }

    private static void dipsWhat() {
        Edge.says("22 OUTSIDE");
        Edge.asked(SLEEPERS.and(Edge.text("c")), "what 0", 1, x -> x.dips(7, 0));
        Edge.asked(SLEEPERS.and(Edge.text("c")), "what 1", 0, x -> x.dips(7, 1));
        Edge.refusedBeyond(Edge.SOME, "what", 0, 1, NodTax.OUTSIDE, (x, v) -> x.dips(0, v));
        Edge.refusedBeyond(Edge.MOST, "what", 0, 1, NodTax.OUTSIDE, (x, v) -> x.dips(0, v));
    }

    private static void dipsEmptyPad() {
        Edge.says("22 the empty PAD");
        Edge.asked(SLEEPERS, "DIPS", 0, x -> x.dips(0, 0));
        Edge.asked(SLEEPERS, "by agreeing", 0, x -> x.dips(0, 1));
    }

    private static void dipsThoseByAgreeing() {
        Edge.says("22 minutes in which he DIPS; those by agreeing");
        Edge.Making tired = x -> {
            x.hearer(0, 0, 2, 1, 1, false);
            Check.text(x, "cc");
        };
        // 1 awake, and agrees; then 0, and NODS
        Edge.asked(tired, "DIPS", 3, x -> x.dips(0, 0));
        Edge.asked(tired, "by agreeing", 1, x -> x.dips(0, 1));
        Edge.asked(tired.and(x -> x.hearer(0, 0, 2, 1, 1, true)), "UPRIGHT", 0, x -> x.dips(0, 0));
        Edge.asked(tired.and(x -> x.hearer(0, 0, 0, 1, 1, false)), "asleep", 0, x -> x.dips(0, 1));
    }

    private static void dipsThirtyMinutes() {
        Edge.says("22 (its first 30 minutes)");
        Edge.Making believer = x -> x.hearer(0, 0, 20, 0, 1, false);
        for (int what = 0; what < 2; what++) {
            int w = what;
            Edge.asked(believer.and(Edge.text("c")), "minute 0", 1, x -> x.dips(0, w));
            Edge.asked(believer.and(Edge.text("h".repeat(29) + "c")), "minute 29", 1 << 29, x -> x.dips(0, w));
            Edge.asked(believer.and(Edge.text("h".repeat(30) + "c")), "minute 30", 0, x -> x.dips(0, w));
            Edge.asked(believer.and(Edge.text("h".repeat(31) + "c")), "minute 31", 0, x -> x.dips(0, w));
            // 32 places on in a word of bits stands minute 0 again
            Edge.asked(believer.and(Edge.text("h".repeat(32) + "c")), "minute 32", 0, x -> x.dips(0, w));
            Edge.asked(believer.and(Edge.text("h".repeat(59) + "c")), "minute 59", 0, x -> x.dips(0, w));
            Edge.asked(believer.and(Edge.text("c".repeat(60))), "all", (1 << 30) - 1, x -> x.dips(0, w));
        }
    }

    private static void dipsFirstRefusal() {
        Edge.says("22 UNKNOWN; OUTSIDE; NO, the first of these");
        Edge.refused(FAULTY, "all three", NodTax.UNKNOWN, x -> x.dips(2, 2));
        Edge.refused(Edge.SOME, "nobody, what", NodTax.UNKNOWN, x -> x.dips(8, -1));
        Edge.refused(FAULTY, "nobody, a fault", NodTax.UNKNOWN, x -> x.dips(2, 0));
        Edge.refused(FAULTY, "what, a fault", NodTax.OUTSIDE, x -> x.dips(0, 2));
        Edge.refused(FAULTY, "a fault", NodTax.NO, x -> x.dips(0, 0));
        Edge.refused(FAULTY, "a fault", NodTax.NO, x -> x.dips(0, 1));
        Edge.refused(FAULTY_FULL, "a fault behind 30 minutes", NodTax.NO, x -> x.dips(0, 0));
    }

    // ---- promise 23

    private static void alikeHowMany() {
        Edge.says("23 how many (i = -1), the i-th");
        Edge.asked(Edge.text("c"), "nobody", 0, x -> x.alike(-1));
        Edge.asked(DOZER.and(Edge.text("c")), "one alone", 0, x -> x.alike(-1));
        Edge.Making eight = SLEEPERS.and(Edge.text("h"));
        Edge.asked(eight, "all twos of eight", 28, x -> x.alike(-1));
        Edge.asked(eight, "the first", 1, x -> x.alike(0));
        Edge.asked(eight, "the last of 0", 7, x -> x.alike(6));
        Edge.asked(eight, "the first of 1", 12, x -> x.alike(7));
        Edge.asked(eight, "the last", 67, x -> x.alike(27));
        Edge.asked(SLEEPERS, "the empty PAD", 28, x -> x.alike(-1));
    }

    private static void alikeNone() {
        Edge.says("23 NONE");
        Edge.Making eight = SLEEPERS.and(Edge.text("h"));
        int[] numbers = {-2, 28, 29, -65536, 65536, Integer.MIN_VALUE, Integer.MAX_VALUE};
        for (int i : numbers) {
            Edge.asked(eight, "alike(" + i + ")", NodTax.NONE, x -> x.alike(i));
        }
        Edge.asked(Edge.text("c"), "nobody", NodTax.NONE, x -> x.alike(0));
        Edge.asked(DOZER.and(Edge.text("c")), "one alone", NodTax.NONE, x -> x.alike(0));
        Edge.Making unlike = x -> {
            x.hearer(0, 0, 20, 0, 0, false);
            x.hearer(7, 2, 0, 0, 0, false);
            Check.text(x, "h");
        };
        Edge.asked(unlike, "none alike", 0, x -> x.alike(-1));
        Edge.asked(unlike, "none alike", NodTax.NONE, x -> x.alike(0));
    }

    /** Two who are awake through all; the one agrees in each c. */
    private static Edge.Making believerAndOther(String text) {
        return x -> {
            x.hearer(0, 0, 20, 0, 1, false);
            x.hearer(1, 2, 20, 0, 0, false);
            Check.text(x, text);
        };
    }

    private static void alikeWholeSermon() {
        Edge.says("23 in just the same minutes of it");
        for (int m : new int[] {0, 29, 30, 31, 32, 58, 59}) {
            Edge.Making unlike = believerAndOther("h".repeat(m) + "c" + "h".repeat(59 - m));
            Edge.asked(unlike, "not in minute " + m, 0, y -> y.alike(-1));
        }
        Edge.asked(believerAndOther("h".repeat(60)), "never, both", 1, y -> y.alike(-1));
        NodTax x = Edge.made(believerAndOther("c"));
        x.hearer(7, 4, 20, 0, 1, false);
        Edge.due("0 and 7 of one SERMON", x.alike(-1), 1);
        x.wipe();
        Edge.due("and all of the empty PAD", x.alike(-1), 3);
        // 0 in both minutes, 1 in the second alone, 2 in none
        Edge.Making tired = y -> {
            y.hearer(0, 0, 0, 0, 0, false);
            y.hearer(1, 2, 2, 1, 0, false);
            y.hearer(2, 4, 2, 1, 0, true);
            Check.text(y, "cc");
        };
        Edge.asked(tired, "one minute more or less", 0, y -> y.alike(-1));
    }

    private static void alikeAcrossWords() {
        Edge.says("23 in just the same minutes of it (0 and 32)");
        // the same place in a word of 32 bits
        Edge.Making apart = x -> {
            x.hearer(0, 0, 20, 0, 1, false);
            x.hearer(1, 2, 20, 3, 0, false);
            Check.text(x, "c" + "h".repeat(28) + "wwww");
        };
        Edge.asked(apart, "0 DIPS in minute 0", 1, x -> x.dips(0, 0));
        Edge.asked(apart, "1 NODS in minute 32", 32, x -> x.first(0));
        Edge.asked(apart, "not alike", 0, x -> x.alike(-1));
    }

    private static void alikeNo() {
        Edge.says("23 NO");
        for (int i : new int[] {-2, -1, 0, 99}) {
            Edge.refused(FAULTY, "a fault, " + i, NodTax.NO, x -> x.alike(i));
            Edge.refused(FAULTY_FULL, "a fault in minute 59, " + i, NodTax.NO, x -> x.alike(i));
            Edge.refused(Edge.text("x"), "nobody there, " + i, NodTax.NO, x -> x.alike(i));
        }
    }
}
