/** The boundary cases of promises 13 to 17, sentence by sentence. */
final class OrderEdgeTest {
    private static final Edge.Making SLEEPERS = x -> {
        for (int h = 0; h < 8; h++) {
            x.hearer(h, h, 0, 0, 0, false);
        }
        x.set(1, 9);
    };
    private static final Edge.Making WAKEFUL = x -> {
        for (int h = 0; h < 8; h++) {
            x.hearer(h, h, 20, 0, 0, false);
        }
    };
    private static final Edge.Making FAULTY = Edge.SOME.and(Edge.text("whx"));
    private static final Edge.Making FAULTY_FULL = Edge.SOME.and(Edge.text("h".repeat(59) + "x"));
    private static final Edge.Making FULL_PAD = Edge.SOME.and(Edge.text("h".repeat(60)));

    public static void main(String[] args) {
        orderWhat();
        orderPlace();
        orderNoPlace();
        orderEmptyPad();
        orderFirstByCodes();
        orderLeastAndMost();
        orderFull();
        orderFirstRefusal();
        startWhat();
        startEmptyPad();
        startFull();
        startBehindAll();
        startFirstPlace();
        startFirstRefusal();
        seatedWhat();
        seatedNothing();
        seatedNoneFewer();
        seatedLastSeat();
        seatedLastHearer();
        seatedFullChurch();
        seatedFirstRefusal();
        hiredNoMoreThan();
        hiredV();
        hiredWhat();
        hiredNobodyAndAll();
        hiredBesidesThoseWhoAre();
        hiredLeastAsBits();
        hiredFirstRefusal();
        leastNoMoreGain();
        leastRates();
        leastNone();
        leastFull();
        leastFirstRefusal();
        Check.end();
    }

    // ---- promise 13

    private static void orderWhat() {
        Edge.says("13 OUTSIDE: what");
        Edge.alwaysRefusedBeyond("what", 0, 1, NodTax.OUTSIDE, (x, v) -> x.order(v, -1));
        Edge.refusedBeyond(Edge.SOME, "what, at a place", 0, 1, NodTax.OUTSIDE, (x, v) -> x.order(v, 0));
        Edge.refusedBeyond(Edge.SOME, "what, at no place", 0, 1, NodTax.OUTSIDE, (x, v) -> x.order(v, 99));
    }

    private static void orderPlace() {
        Edge.says("13 how much (place = -1), the sign at a place of the first");
        Edge.Making seven = Edge.text("~wsonhc");
        for (int what = 0; what < 2; what++) {
            int w = what;
            Edge.asked(seven, "how much", w == 0 ? 0 : 10000, x -> x.order(w, -1));
            for (int place = 0; place < 7; place++) {
                int p = place;
                Edge.asked(seven, "place " + p, "chnosw~".charAt(p), x -> x.order(w, p));
            }
            Edge.asked(Edge.text("w"), "the only place", 'w', x -> x.order(w, 0));
        }
    }

    private static void orderNoPlace() {
        Edge.says("13 NONE");
        int[] places = {-2, 7, 8, 60, -65536, 65536, Integer.MIN_VALUE, Integer.MAX_VALUE};
        for (int p : places) {
            Edge.asked(Edge.text("~wsonhc"), "place " + p, NodTax.NONE, x -> x.order(0, p));
            Edge.asked(Edge.text("~wsonhc"), "place " + p, NodTax.NONE, x -> x.order(1, p));
        }
        Edge.asked(Edge.SOME, "place 3 of 3", NodTax.NONE, x -> x.order(0, 3));
        Edge.asked(Edge.SOME, "place 2 of 3", 'w', x -> x.order(0, 2));
        // a longer SERMON asked of ahead leaves nothing behind
        NodTax x = Edge.made(Edge.text("~wsonhc"));
        x.order(0, -1);
        Check.text(x, "w");
        Edge.due("behind a longer one", x.order(0, 1), NodTax.NONE);
    }

    private static void orderEmptyPad() {
        Edge.says("13 the empty PAD");
        Edge.asked(SLEEPERS, "the least TAX", 0, x -> x.order(0, -1));
        Edge.asked(SLEEPERS, "the most GAIN", 10000, x -> x.order(1, -1));
        Edge.asked(SLEEPERS, "no sign", NodTax.NONE, x -> x.order(0, 0));
        Edge.asked(SLEEPERS, "no sign", NodTax.NONE, x -> x.order(1, 0));
    }

    private static void orderFirstByCodes() {
        Edge.says("13 of the first order (by codes) that is so");
        Edge.Making hard = x -> {
            x.hearer(0, 0, 4, 4, 0, false);
            Check.text(x, "oh");
        };
        // "ho" and "oh" are taxed alike; only "oh" gains the most
        Edge.asked(hard, "of equal TAX", 'h', x -> x.order(0, 0));
        Edge.asked(hard, "not the first, but the best", 'o', x -> x.order(1, 0));
        Edge.asked(hard.and(x -> x.set(1, 0)), "untaxed", 'h', x -> x.order(0, 0));
        Edge.asked(Edge.text("~~~wwww"), "like signs", 'w', x -> x.order(0, 3));
        Edge.asked(Edge.text("~~~wwww"), "like signs", '~', x -> x.order(0, 4));
    }

    private static void orderLeastAndMost() {
        Edge.says("13 how much, at most");
        Edge.asked(SLEEPERS.and(Edge.text("wwwwwww")), "TAX", 504, x -> x.order(0, -1));
        Edge.asked(SLEEPERS.and(Edge.text("ooooooo")), "less than nothing", 9496, x -> x.order(1, -1));
        Edge.asked(WAKEFUL.and(Edge.text("ooooooo")), "GAIN", 10112, x -> x.order(1, -1));
        Edge.asked(WAKEFUL.and(Edge.text("ooooooo")), "no TAX", 0, x -> x.order(0, -1));
    }

    private static void orderFull() {
        Edge.says("13 FULL: more than 7");
        Edge.asked(Edge.SOME.and(Edge.text("hhhhhhh")), "seven", 0, x -> x.order(0, -1));
        for (int count : new int[] {8, 9, 59, 60}) {
            Edge.Making many = Edge.SOME.and(Edge.text("h".repeat(count)));
            Edge.refused(many, count + " signs", NodTax.FULL, x -> x.order(0, -1));
            Edge.refused(many, count + " signs", NodTax.FULL, x -> x.order(1, -1));
            Edge.refused(many, count + " signs, a place", NodTax.FULL, x -> x.order(0, 0));
            Edge.refused(many, count + " signs, no place", NodTax.FULL, x -> x.order(0, 60));
        }
    }

    private static void orderFirstRefusal() {
        Edge.says("13 OUTSIDE: what; NO; FULL, the first of these");
        Edge.refused(FAULTY_FULL, "all three", NodTax.OUTSIDE, x -> x.order(2, -1));
        Edge.refused(FAULTY, "what, a fault", NodTax.OUTSIDE, x -> x.order(-1, -1));
        Edge.refused(FULL_PAD, "what, too many", NodTax.OUTSIDE, x -> x.order(2, 0));
        Edge.refused(FAULTY_FULL, "a fault, too many", NodTax.NO, x -> x.order(0, -1));
        Edge.refused(Edge.text("hhhhhhhx"), "a fault is the eighth", NodTax.NO, x -> x.order(1, -1));
        Edge.refused(FAULTY, "a fault", NodTax.NO, x -> x.order(0, -1));
        Edge.refused(FAULTY, "a fault, no place", NodTax.NO, x -> x.order(0, -2));
        Edge.refused(FAULTY, "a fault, no place", NodTax.NO, x -> x.order(1, 3));
    }

    // ---- promise 14

    private static void startWhat() {
        Edge.says("14 OUTSIDE");
        Edge.asked(Edge.text("w"), "what 0", 10000, x -> x.start(0));
        Edge.asked(Edge.text("w"), "what 1", 0, x -> x.start(1));
        Edge.alwaysRefusedBeyond("what", 0, 1, NodTax.OUTSIDE, (x, v) -> x.start(v));
    }

    private static void startEmptyPad() {
        Edge.says("14 s put ahead of one minute of it, or behind all (the empty PAD)");
        Edge.asked(SLEEPERS, "the start alone", 9928, x -> x.start(0));
        Edge.asked(SLEEPERS, "its place", 0, x -> x.start(1));
        Edge.asked(WAKEFUL, "the start alone", 10000, x -> x.start(0));
    }

    private static void startFull() {
        Edge.says("14 FULL: more than 59");
        Edge.Making most = WAKEFUL.and(Edge.text("h".repeat(59)));
        Edge.asked(most, "59", 10472, x -> x.start(0));
        Edge.asked(most, "59, the place", 0, x -> x.start(1));
        Edge.refused(FULL_PAD, "60", NodTax.FULL, x -> x.start(0));
        Edge.refused(FULL_PAD, "60", NodTax.FULL, x -> x.start(1));
        Edge.refused(Edge.MOST, "60", NodTax.FULL, x -> x.start(0));
    }

    private static void startBehindAll() {
        Edge.says("14 or behind all");
        // in ROW 2 a start wakes nobody: it is one dull minute more, and he NODS from it on
        Edge.Making far = x -> {
            x.church(3);
            x.hearer(7, 11, 1, 1, 0, false);
        };
        Edge.asked(far.and(Edge.text("o")), "of one, GAIN", 10001, x -> x.start(0));
        Edge.asked(far.and(Edge.text("o")), "of one, the place", 1, x -> x.start(1));
        Edge.asked(far.and(Edge.text("o".repeat(59))), "of 59, GAIN", 10117, x -> x.start(0));
        Edge.asked(far.and(Edge.text("o".repeat(59))), "of 59, the place", 59, x -> x.start(1));
    }

    private static void startFirstPlace() {
        Edge.says("14 (the first place)");
        Edge.asked(Edge.text("w".repeat(59)), "nobody there", 0, x -> x.start(1));
        Edge.Making near = x -> {
            x.hearer(0, 0, 4, 2, 0, false);
            Check.text(x, "oooo");
        };
        // ahead of the first he is awake to 0 at the last; ahead of any other he is not
        Edge.asked(near, "the first that is so", 1, x -> x.start(1));
        Edge.asked(near, "how much", 10008, x -> x.start(0));
    }

    private static void startFirstRefusal() {
        Edge.says("14 OUTSIDE; NO; FULL, the first of these");
        Edge.refused(FAULTY_FULL, "all three", NodTax.OUTSIDE, x -> x.start(2));
        Edge.refused(FAULTY, "what, a fault", NodTax.OUTSIDE, x -> x.start(-1));
        Edge.refused(FULL_PAD, "what, too many", NodTax.OUTSIDE, x -> x.start(2));
        Edge.refused(FAULTY_FULL, "a fault, too many", NodTax.NO, x -> x.start(0));
        Edge.refused(FAULTY_FULL, "a fault, too many", NodTax.NO, x -> x.start(1));
        Edge.refused(FAULTY, "a fault", NodTax.NO, x -> x.start(0));
    }

    // ---- promise 15

    private static void seatedWhat() {
        Edge.says("15 OUTSIDE");
        Edge.asked(Edge.SOME, "what 0", 3, x -> x.seated(0));
        Edge.alwaysRefusedBeyond("what", 0, 1, NodTax.OUTSIDE, (x, v) -> x.seated(v));
    }

    private static void none(Edge.Making making, String when, int nods) {
        Edge.asked(making, when + ", NODS", nods, x -> x.seated(0));
        Edge.asked(making, when + ", which", NodTax.NONE, x -> x.seated(1));
    }

    private static void seatedNothing() {
        Edge.says("15 by one such change, or none (nobody, nothing)");
        none(Edge.text("wwww"), "nobody there", 0);
        none(SLEEPERS, "the empty PAD", 0);
        none(WAKEFUL.and(Edge.text("c".repeat(60))), "nobody NODS", 0);
    }

    private static void seatedNoneFewer() {
        Edge.says("15 NONE: no change has fewer than it is now");
        none(SLEEPERS.and(Edge.text("h".repeat(60))), "always asleep", 480);
        Edge.Making alone = x -> {
            x.hearer(3, 2, 2, 1, 0, false);
            Check.text(x, "wc");
        };
        none(alone, "alone", 2);
        Edge.Making beside = alone.and(x -> x.hearer(0, 3, 0, 0, 0, true));
        none(beside, "beside the UPRIGHT one already", 1);
    }

    private static void seatedLastSeat() {
        Edge.says("15 one goes to an empty SEAT (the last)");
        // 3 is UPRIGHT, and elbows 2; 0 can have his other elbow in seat 11 only
        Edge.Making row = x -> {
            x.church(3);
            x.hearer(0, 0, 2, 1, 0, false);
            x.hearer(1, 8, 0, 0, 0, false);
            x.hearer(2, 9, 2, 1, 0, false);
            x.hearer(3, 10, 0, 0, 0, true);
            Check.text(x, "wccc");
        };
        Edge.asked(row, "now", 10, x -> x.sum(-1, 0));
        Edge.asked(row, "NODS", 8, x -> x.seated(0));
        Edge.asked(row, "which", 11, x -> x.seated(1));
    }

    private static void seatedLastHearer() {
        Edge.says("15 100 times the HEARER and the SEAT he goes to: the least of these");
        Edge.Making far = x -> {
            x.church(3);
            x.hearer(7, 11, 5, 2, 0, false);
            Check.text(x, "ws");
        };
        // 5, 1, and then 0 but for a start that reaches him: in ROW 1 by 2, in ROW 0 by 4
        Edge.asked(far, "7 to seat 0", 700, x -> x.seated(1));
        Edge.asked(far, "NODS", 0, x -> x.seated(0));
        Edge.Making both = x -> {
            x.church(3);
            x.hearer(6, 8, 20, 0, 0, false);
            x.hearer(7, 0, 2, 1, 0, false);
            Check.text(x, "wc");
        };
        // 6 beside 7 is told ahead of 7 beside 6
        Edge.asked(both, "the lesser goes", 601, x -> x.seated(1));
    }

    private static void seatedFullChurch() {
        Edge.says("15 two HEARERS change SEATS");
        Edge.Making row = x -> {
            x.church(1);
            x.hearer(4, 0, 0, 0, 0, true);
            x.hearer(5, 1, 20, 0, 0, false);
            x.hearer(6, 2, 2, 1, 0, false);
            x.hearer(7, 3, 2, 1, 0, false);
            Check.text(x, "wc");
        };
        Edge.asked(row, "a full row, now", 3, x -> x.sum(-1, 0));
        Edge.asked(row, "a full row, NODS", 2, x -> x.seated(0));
        Edge.asked(row, "a full row, by the lesser of the two", 402, x -> x.seated(1));
        Edge.Making eight = SLEEPERS.and(x -> {
            x.hearer(0, 0, 0, 0, 0, true);
            x.hearer(7, 7, 2, 1, 0, false);
            Check.text(x, "wc");
        });
        // beside 0 in his corner is one seat; the others never wake
        Edge.asked(eight, "a full church, now", 14, x -> x.sum(-1, 0));
        Edge.asked(eight, "a full church, NODS", 13, x -> x.seated(0));
        Edge.asked(eight, "a full church, which", 6, x -> x.seated(1));
    }

    private static void seatedFirstRefusal() {
        Edge.says("15 OUTSIDE; NO, the first of these");
        Edge.refusedBeyond(FAULTY, "what, a fault", 0, 1, NodTax.OUTSIDE, (x, v) -> x.seated(v));
        Edge.refused(FAULTY, "a fault", NodTax.NO, x -> x.seated(0));
        Edge.refused(FAULTY, "a fault", NodTax.NO, x -> x.seated(1));
        Edge.refused(FAULTY_FULL, "a fault in minute 59", NodTax.NO, x -> x.seated(0));
        Edge.refused(Edge.text("x"), "nobody there", NodTax.NO, x -> x.seated(1));
    }

    // ---- promise 16

    private static void hires(Edge.Making making, String when, int v, int count, int bits) {
        Edge.asked(making, when + " " + v + ", how many", count, x -> x.hired(v, 0));
        Edge.asked(making, when + " " + v + ", which", bits, x -> x.hired(v, 1));
    }

    /** One who NODS in each of 60 minutes, and one who agrees in so many of them, at 9 pence. */
    private static Edge.Making taxedMinutes(int agreed) {
        return x -> {
            x.hearer(0, 0, 0, 0, 0, false);
            x.hearer(1, 2, 20, 0, 1, false);
            x.set(1, 9);
            Check.text(x, "c".repeat(agreed) + "h".repeat(60 - agreed));
        };
    }

    private static void hiredNoMoreThan() {
        Edge.says("16 by which TAX is no more than v");
        Edge.Making two = x -> {
            x.hearer(0, 0, 0, 0, 0, false);
            x.hearer(1, 2, 0, 0, 0, false);
            x.set(1, 3);
            Check.text(x, "cc");
        };
        hires(two, "just TAX", 12, 0, 0);
        hires(two, "one less", 11, 1, 1);
        hires(two, "just half", 6, 1, 1);
        hires(two, "one less", 5, 2, 3);
        hires(two, "nothing", 0, 2, 3);
    }

    private static void hiredV() {
        Edge.says("16 v (0 to 999)");
        hires(taxedMinutes(51), "TAX 999", 999, 0, 0);
        hires(taxedMinutes(51), "TAX 999", 998, 1, 1);
        hires(taxedMinutes(52), "TAX 1008", 999, 1, 1);
        hires(taxedMinutes(51), "TAX 999", 0, 2, 3);
        Edge.alwaysRefusedBeyond("v", 0, 999, NodTax.OUTSIDE, (x, v) -> x.hired(v, 0));
        Edge.refusedBeyond(Edge.SOME, "v", 0, 999, NodTax.OUTSIDE, (x, v) -> x.hired(v, 1));
    }

    private static void hiredWhat() {
        Edge.says("16 OUTSIDE (what)");
        Edge.alwaysRefusedBeyond("what", 0, 1, NodTax.OUTSIDE, (x, v) -> x.hired(0, v));
        Edge.alwaysRefusedBeyond("what", 0, 1, NodTax.OUTSIDE, (x, v) -> x.hired(999, v));
        Edge.refusedBeyond(Edge.SOME, "what, and v", 0, 1, NodTax.OUTSIDE, (x, v) -> x.hired(1000, v));
    }

    private static void hiredNobodyAndAll() {
        Edge.says("16 the fewest who are to be UPRIGHT (none, all)");
        hires(SLEEPERS, "the empty PAD", 0, 0, 0);
        hires(Edge.text("w".repeat(60)), "the empty church", 0, 0, 0);
        hires(SLEEPERS.and(Edge.text("w")), "all eight", 0, 8, 255);
        hires(SLEEPERS.and(Edge.text("w")), "all but one", 9, 7, 127);
        hires(SLEEPERS.and(Edge.text("w".repeat(60))), "all eight for an hour", 0, 8, 255);
        hires(SLEEPERS.and(Edge.text("w")).and(x -> x.set(1, 0)), "untaxed", 0, 0, 0);
        hires(SLEEPERS.and(Edge.text("w")).and(x -> x.set(2, 2)), "unseen", 0, 0, 0);
    }

    private static void hiredBesidesThoseWhoAre() {
        Edge.says("16 (besides those who are)");
        Edge.Making most = SLEEPERS.and(x -> {
            for (int h = 0; h < 7; h++) {
                x.hearer(h, h, 0, 0, 0, true);
            }
            Check.text(x, "w");
        });
        hires(most, "all but the last are", 0, 1, 128);
        hires(most, "all but the last are", 9, 0, 0);
        hires(most.and(x -> x.hearer(7, 7, 0, 0, 0, true)), "all are", 0, 0, 0);
    }

    private static void hiredLeastAsBits() {
        Edge.says("16 which, the least as bits");
        Edge.Making three = x -> {
            x.hearer(1, 0, 0, 0, 0, false);
            x.hearer(4, 2, 0, 0, 0, false);
            x.hearer(7, 4, 0, 0, 0, false);
            Check.text(x, "w");
        };
        hires(three, "of three ways", 2, 1, 2);
        hires(three, "of three ways", 1, 2, 18);
        hires(three.and(x -> x.set(2, 1)), "the only one seen", 0, 1, 128);
        // two by lesser numbers are more than one by a greater
        Edge.Making dear = x -> {
            x.hearer(0, 0, 20, 0, 1, false);
            x.hearer(1, 2, 20, 0, 1, false);
            x.hearer(7, 4, 0, 0, 0, false);
            Check.text(x, "cww");
        };
        hires(dear, "the only one by itself", 2, 1, 128);
        hires(dear, "fewest ahead of least", 3, 1, 128);
        hires(dear, "any one", 4, 1, 1);
    }

    private static void hiredFirstRefusal() {
        Edge.says("16 OUTSIDE; NO, the first of these");
        Edge.refusedBeyond(FAULTY, "v, a fault", 0, 999, NodTax.OUTSIDE, (x, v) -> x.hired(v, 0));
        Edge.refusedBeyond(FAULTY, "what, a fault", 0, 1, NodTax.OUTSIDE, (x, v) -> x.hired(0, v));
        Edge.refused(FAULTY, "a fault", NodTax.NO, x -> x.hired(0, 0));
        Edge.refused(FAULTY, "a fault", NodTax.NO, x -> x.hired(999, 1));
        Edge.refused(FAULTY_FULL, "a fault in minute 59", NodTax.NO, x -> x.hired(999, 0));
    }

    // ---- promise 17

    /** So many awake, so many asleep, on an empty PAD. */
    private static Edge.Making heads(int awake, int asleep) {
        return x -> {
            for (int h = 0; h < awake + asleep; h++) {
                x.hearer(h, h, h < awake ? 20 : 0, 0, 0, false);
            }
        };
    }

    private static void leastNoMoreGain() {
        Edge.says("17 has no more GAIN than it has");
        Edge.asked(Edge.NOTHING, "just as much, of nobody", 1, x -> x.least());
        Edge.asked(heads(3, 1), "just as much at 3", 3, x -> x.least());
        Edge.asked(heads(4, 2), "just as much at 2", 2, x -> x.least());
        Edge.asked(heads(5, 2), "more at 2, less at 3", 3, x -> x.least());
        Edge.asked(heads(1, 3), "less at 1", 1, x -> x.least());
        Edge.asked(heads(0, 8), "less at 1", 1, x -> x.least());
    }

    private static void leastRates() {
        Edge.says("17 the least rate of TAX (1 to 9)");
        for (int awake = 1; awake <= 7; awake++) {
            Edge.asked(heads(awake, 1), awake + " awake", awake, x -> x.least());
        }
        Edge.asked(heads(7, 1).and(x -> x.set(1, 0)), "TAX is 0 now", 7, x -> x.least());
        Edge.asked(heads(7, 1).and(x -> x.set(1, 9)), "TAX is 9 now", 7, x -> x.least());
    }

    private static void leastNone() {
        Edge.says("17 NONE: none does");
        Edge.asked(heads(1, 0), "one who gives", NodTax.NONE, x -> x.least());
        Edge.asked(heads(8, 0), "eight who give", NodTax.NONE, x -> x.least());
        Edge.asked(heads(1, 1).and(x -> x.set(2, 1)), "unseen", NodTax.NONE, x -> x.least());
        Edge.asked(x -> x.hearer(0, 0, 0, 0, 0, true), "UPRIGHT", NodTax.NONE, x -> x.least());
        Edge.asked(x -> x.hearer(0, 0, 4, 4, 0, false), "dull, but still awake", NodTax.NONE, x -> x.least());
        Edge.asked(x -> x.hearer(0, 0, 2, 5, 0, false), "and not awake any more", 1, x -> x.least());
    }

    private static void leastFull() {
        Edge.says("17 FULL: more than 59");
        Edge.asked(heads(2, 1).and(Edge.text("w".repeat(8))), "eight signs", 2, x -> x.least());
        Edge.asked(heads(2, 1).and(Edge.text("h".repeat(59))), "59", 2, x -> x.least());
        // alone, he is 1 awake behind 59 minutes, by each of them, and NODS in the sixtieth
        Edge.Making last = x -> {
            x.hearer(0, 0, 20, 4, 0, false);
            Check.text(x, "h".repeat(19) + "nh".repeat(20));
        };
        Edge.asked(last, "awake so far", 0, x -> x.sum(-1, 0));
        Edge.asked(last, "and not in the next", 1, x -> x.least());
        Edge.refused(FULL_PAD, "60", NodTax.FULL, x -> x.least());
        Edge.refused(Edge.MOST, "60", NodTax.FULL, x -> x.least());
    }

    private static void leastFirstRefusal() {
        Edge.says("17 NO; FULL, the first of these");
        Edge.refused(FAULTY_FULL, "both", NodTax.NO, x -> x.least());
        Edge.refused(FAULTY, "a fault", NodTax.NO, x -> x.least());
    }
}
