/** The boundary cases of promises 24 to 29, sentence by sentence. */
final class ParishEdgeTest {
    private static final long LOST_OUTSIDE = -1000000000000000002L;
    private static final long LOST_FULL = -1000000000000000004L;
    private static final long LOST_NO = -1000000000000000005L;
    private static final Edge.Making FAULTY = Edge.SOME.and(Edge.text("whx"));
    private static final Edge.Making FAULTY_FULL = Edge.SOME.and(Edge.text("h".repeat(59) + "x"));
    private static final Edge.Making ELEVEN = Edge.SOME.and(Edge.text("h".repeat(11)));

    public static void main(String[] args) {
        parishesChurch();
        parishesNobodyAndAll();
        parishesWouldLikeBetter();
        parishesBeginInChurch0();
        parishesWhateverIsOnThePad();
        coldTenths();
        coldWhat();
        coldPart();
        coldNothing();
        coldLowestTerms();
        coldNeverAndAlways();
        coldTenMinutes();
        coldFull();
        coldFirstRefusal();
        yearSeed();
        yearSermons();
        yearWhat();
        yearNobodyAndAll();
        yearSermonsBeginAnew();
        yearWhateverIsOnThePad();
        imageOutside();
        imageAnew();
        imageWithoutThePad();
        imageOfNothingAndOfMost();
        restoreOutside();
        restoreState();
        restoreFirstRefusal();
        restoreAsItWas();
        restoreSights();
        restoreKeepsImages();
        toldNothingAndMost();
        toldOfHearers();
        toldOutside();
        Check.end();
    }

    private static Edge.Making eight(int awake, int creed) {
        return x -> {
            for (int h = 0; h < 8; h++) {
                x.hearer(h, h, awake, 0, creed, false);
            }
        };
    }

    // ---- promise 24

    private static void settled(Edge.Making making, String when, int... due) {
        for (int church = -1; church < 3; church++) {
            int c = church;
            Edge.asked(making, when + ", parishes(" + c + ")", due[c + 1], x -> x.parishes(c));
        }
    }

    private static void parishesChurch() {
        Edge.says("24 OUTSIDE");
        Edge.alwaysRefusedBeyond("parishes", -1, 2, NodTax.OUTSIDE, (x, v) -> x.parishes(v));
        Edge.refusedBeyond(FAULTY, "with a fault", -1, 2, NodTax.OUTSIDE, (x, v) -> x.parishes(v));
    }

    private static void parishesNobodyAndAll() {
        Edge.says("24 (the last one, in which nobody does, counts, too)");
        settled(Edge.NOTHING, "nobody", 1, 0, 0, 0);
        settled(x -> x.hearer(7, 0, 0, 0, 1, false), "nobody goes", 1, 1, 0, 0);
        settled(x -> x.hearer(7, 0, 0, 0, 0, false), "one goes", 2, 0, 0, 1);
        settled(eight(0, 0), "eight for h", 2, 1, 3, 4);
        settled(eight(0, 1), "eight for o", 2, 5, 3, 0);
    }

    private static void parishesWouldLikeBetter() {
        Edge.says("24 each who would like another one better goes to the one he likes best (of several the least)");
        Edge.Making three = x -> {
            for (int h = 0; h < 3; h++) {
                x.hearer(h, h, 0, 0, 0, false);
            }
        };
        // the third likes 1 and 2 alike, and better than 0
        settled(three, "of several the least", 2, 0, 1, 2);
        Edge.Making hopeful = x -> {
            for (int h = 0; h < 3; h++) {
                x.hearer(h, h, 0, 0, 1, false);
            }
        };
        // 4 less 2 in church 0 is no less than 2 in church 1
        settled(hopeful, "just as much is not better", 1, 3, 0, 0);
        settled(hopeful.and(x -> x.hearer(3, 3, 0, 0, 1, false)), "one more, and it is", 2, 3, 1, 0);
        // 0 is in church 1 for a round, so 3 goes to church 2; then 1 to 3 like 1 just as much, and stay
        settled(three.and(x -> {
            x.hearer(0, 0, 0, 0, 1, false);
            x.hearer(3, 3, 0, 0, 0, false);
        }), "not even in a lesser church", 3, 1, 0, 3);
    }

    private static void parishesBeginInChurch0() {
        Edge.says("24 all begin in church 0");
        NodTax x = Edge.made(eight(0, 0));
        for (int times = 0; times < 2; times++) {
            Edge.due("ROUNDS", x.parishes(-1), 2);
            Edge.due("church 0", x.parishes(0), 1);
            Edge.due("church 1", x.parishes(1), 3);
            Edge.due("church 2", x.parishes(2), 4);
        }
        for (int hearer : new int[] {0, 7}) {
            NodTax y = new NodTax();
            y.hearer(hearer, 0, 0, 0, 0, false);
            Edge.due("one goes", y.parishes(-1), 2);
            Edge.due("and when asked again", y.parishes(-1), 2);
            Edge.due("to church 2", y.parishes(2), 1);
        }
    }

    private static void parishesWhateverIsOnThePad() {
        Edge.says("24 no refusal for the PAD");
        settled(eight(0, 0).and(Edge.text("x")), "a fault", 2, 1, 3, 4);
        settled(eight(20, 0).and(Edge.text("x".repeat(60))), "sixty faults", 2, 1, 3, 4);
    }

    // ---- promise 25

    private static void fraction(Edge.Making making, String when, int t, int what, long upper, long lower) {
        Edge.asked(making, when + ", upper", upper, x -> x.cold(t, what, 0));
        Edge.asked(making, when + ", lower", lower, x -> x.cold(t, what, 1));
    }

    private static void coldTenths() {
        Edge.says("25 OUTSIDE (t tenths, 0 to 10)");
        Edge.alwaysRefusedBeyond("t", 0, 10, LOST_OUTSIDE, (x, v) -> x.cold(v, 0, 0));
        Edge.refusedBeyond(Edge.SOME, "t", 0, 10, LOST_OUTSIDE, (x, v) -> x.cold(v, 1, 1));
    }

    private static void coldWhat() {
        Edge.says("25 OUTSIDE (what 0, 1)");
        Edge.alwaysRefusedBeyond("what", 0, 1, LOST_OUTSIDE, (x, v) -> x.cold(5, v, 0));
        Edge.refusedBeyond(Edge.SOME, "what", 0, 1, LOST_OUTSIDE, (x, v) -> x.cold(5, v, 1));
    }

    private static void coldPart() {
        Edge.says("25 OUTSIDE (part 0, 1)");
        Edge.alwaysRefusedBeyond("part", 0, 1, LOST_OUTSIDE, (x, v) -> x.cold(5, 0, v));
        Edge.refusedBeyond(Edge.SOME, "part", 0, 1, LOST_OUTSIDE, (x, v) -> x.cold(5, 1, v));
    }

    private static void coldNothing() {
        Edge.says("25 of nobody, of nothing");
        for (int t : new int[] {0, 1, 9, 10}) {
            fraction(eight(0, 0), "the empty PAD, nobody NODS", t, 0, 1, 1);
            fraction(eight(0, 0), "the empty PAD, the mean", t, 1, 0, 1);
            fraction(Edge.text("wwwwwwwwww"), "the empty church, nobody NODS", t, 0, 1, 1);
            fraction(Edge.text("wwwwwwwwww"), "the empty church, the mean", t, 1, 0, 1);
        }
    }

    /** One who NODS in a minute c that is not cold, and for good then. */
    private static Edge.Making shivering(int minutes) {
        return x -> {
            x.hearer(0, 0, 2, 2, 0, false);
            Check.text(x, "c".repeat(minutes));
        };
    }

    private static void coldLowestTerms() {
        Edge.says("25 Fractions are told in lowest terms");
        fraction(shivering(1), "nothing", 0, 0, 0, 1);
        fraction(shivering(1), "one", 0, 1, 1, 1);
        fraction(shivering(1), "a tenth", 1, 0, 1, 10);
        fraction(shivering(1), "nine tenths", 1, 1, 9, 10);
        fraction(shivering(1), "two fifths", 4, 0, 2, 5);
        fraction(shivering(1), "a half", 5, 1, 1, 2);
        fraction(shivering(2), "more than one", 5, 1, 5, 4);
        fraction(shivering(10), "a whole number", 0, 1, 10, 1);
    }

    private static void coldNeverAndAlways() {
        Edge.says("25 with t tenths (0 to 10): then nobody is less awake by DULL");
        fraction(shivering(10), "never, nobody NODS", 0, 0, 0, 1);
        fraction(shivering(10), "always, nobody NODS", 10, 0, 1, 1);
        fraction(shivering(10), "always, the mean", 10, 1, 0, 1);
        Edge.Making words = x -> {
            x.hearer(0, 0, 2, 0, 0, false);
            Check.text(x, "w");
        };
        // what the sign takes is taken in a cold minute, too
        fraction(words, "a cold w", 10, 1, 1, 1);
    }

    private static void coldTenMinutes() {
        Edge.says("25 (10 signs at most)");
        fraction(shivering(10), "all ten cold by a tenth each", 1, 0, 1, 10000000000L);
        fraction(shivering(10), "all ten cold by nine tenths each", 9, 0, 3486784401L, 10000000000L);
        fraction(eight(0, 0).and(Edge.text("wwwwwwwwww")), "the most NODS", 3, 1, 80, 1);
        fraction(eight(0, 0).and(Edge.text("wwwwwwwwww")), "never nobody", 7, 0, 0, 1);
    }

    private static void coldFull() {
        Edge.says("25 FULL: more than 10");
        for (int count : new int[] {11, 12, 59, 60}) {
            Edge.Making many = Edge.SOME.and(Edge.text("h".repeat(count)));
            Edge.refused(many, count + " signs", LOST_FULL, x -> x.cold(0, 0, 0));
            Edge.refused(many, count + " signs", LOST_FULL, x -> x.cold(10, 1, 1));
        }
    }

    private static void coldFirstRefusal() {
        Edge.says("25 OUTSIDE; NO; FULL, the first of these, and LOST");
        Edge.refused(FAULTY_FULL, "all three", LOST_OUTSIDE, x -> x.cold(11, 0, 0));
        Edge.refused(FAULTY, "t, a fault", LOST_OUTSIDE, x -> x.cold(-1, 0, 0));
        Edge.refused(FAULTY, "what, a fault", LOST_OUTSIDE, x -> x.cold(0, 2, 0));
        Edge.refused(FAULTY, "part, a fault", LOST_OUTSIDE, x -> x.cold(0, 0, 2));
        Edge.refused(ELEVEN, "t, too many", LOST_OUTSIDE, x -> x.cold(11, 0, 0));
        Edge.refused(ELEVEN, "what, too many", LOST_OUTSIDE, x -> x.cold(0, -1, 0));
        Edge.refused(ELEVEN, "part, too many", LOST_OUTSIDE, x -> x.cold(0, 0, -1));
        Edge.refused(FAULTY_FULL, "a fault, too many", LOST_NO, x -> x.cold(0, 0, 0));
        Edge.refused(Edge.text("hhhhhhhhhhx"), "the eleventh is a fault", LOST_NO, x -> x.cold(5, 1, 0));
        Edge.refused(FAULTY, "a fault", LOST_NO, x -> x.cold(10, 1, 1));
    }

    // ---- promise 26

    private static void yearSeed() {
        Edge.says("26 OUTSIDE (a seed, 0 to 9999)");
        Edge.asked(eight(0, 0), "seed 0", 48, x -> x.year(0, 1, 0));
        Edge.asked(eight(0, 0), "seed 9999", 48, x -> x.year(9999, 1, 0));
        Edge.alwaysRefusedBeyond("seed", 0, 9999, NodTax.OUTSIDE, (x, v) -> x.year(v, 1, 0));
    }

    private static void yearSermons() {
        Edge.says("26 OUTSIDE (m sermons, 1 to 50)");
        Edge.asked(eight(0, 0), "1", 48, x -> x.year(5, 1, 0));
        Edge.asked(eight(0, 0), "50", 2400, x -> x.year(5, 50, 0));
        Edge.alwaysRefusedBeyond("m", 1, 50, NodTax.OUTSIDE, (x, v) -> x.year(0, v, 0));
    }

    private static void yearWhat() {
        Edge.says("26 OUTSIDE (what)");
        Edge.asked(eight(0, 0), "what 0", 48, x -> x.year(0, 1, 0));
        Edge.asked(eight(0, 0), "what 2", 0, x -> x.year(0, 1, 2));
        Edge.alwaysRefusedBeyond("what", 0, 2, NodTax.OUTSIDE, (x, v) -> x.year(0, 1, v));
        Edge.refusedBeyond(Edge.SOME, "what, and all else", 0, 2, NodTax.OUTSIDE, (x, v) -> x.year(-1, 51, v));
    }

    private static void yearNobodyAndAll() {
        Edge.says("26 of nobody, of all eight");
        Edge.asked(Edge.NOTHING, "no TAX", 0, x -> x.year(9999, 50, 0));
        Edge.asked(Edge.NOTHING, "no OFFERINGS", 0, x -> x.year(9999, 50, 1));
        Edge.asked(Edge.NOTHING, "all SERMONS", 50, x -> x.year(9999, 50, 2));
        Edge.Making asleep = eight(0, 0).and(x -> x.set(1, 9));
        Edge.asked(asleep, "the most TAX", 21600, x -> x.year(9999, 50, 0));
        Edge.asked(asleep, "no OFFERINGS", 0, x -> x.year(9999, 50, 1));
        Edge.asked(asleep, "no SERMONS", 0, x -> x.year(9999, 50, 2));
        Edge.asked(asleep.and(x -> x.set(1, 0)), "untaxed", 0, x -> x.year(9999, 50, 0));
        Edge.asked(asleep.and(x -> x.set(2, 2)), "unseen", 0, x -> x.year(9999, 50, 0));
    }

    private static final Edge.Making PEOPLE = x -> {
        x.church(3);
        x.hearer(0, 0, 9, 2, 1, false);
        x.hearer(2, 1, 4, 1, 0, false);
        x.hearer(3, 6, 12, 4, 1, false);
        x.hearer(7, 11, 20, 3, 0, false);
        x.set(0, 8);
        x.set(1, 2);
    };

    /** Each SERMON of a year is preached by itself on a PAD, and summed up. */
    private static void yearSermonsBeginAnew() {
        Edge.says("26 each has 6 minutes: for each x becomes (75 x and 74) left over by 65537");
        for (int seed : new int[] {0, 1, 4242, 9999}) {
            NodTax x = Edge.made(PEOPLE);
            long drawn = seed;
            int[] due = new int[3];
            for (int m = 1; m <= 50; m++) {
                x.wipe();
                for (int i = 0; i < 6; i++) {
                    drawn = (75 * drawn + 74) % 65537;
                    x.say("whoncs~".charAt((int) (drawn % 7)));
                }
                due[0] += x.sum(-1, 2);
                due[1] += x.sum(-1, 3);
                due[2] += x.first(0) == NodTax.NONE ? 1 : 0;
                if (m == 1 || m == 2 || m == 50) {
                    for (int what = 0; what < 3; what++) {
                        Edge.due("year(" + seed + ", " + m + ", " + what + ")", Edge.made(PEOPLE).year(seed, m, what), due[what]);
                    }
                }
            }
        }
    }

    private static void yearWhateverIsOnThePad() {
        Edge.says("26 Nothing is changed by it, and no refusal for the PAD");
        Edge.asked(eight(0, 0).and(Edge.text("x")), "a fault", 48, x -> x.year(0, 1, 0));
        Edge.asked(eight(0, 0).and(Edge.text("h".repeat(60))), "the full PAD", 48, x -> x.year(0, 1, 0));
        Edge.asked(Edge.MOST, "unchanged", 9, x -> {
            x.year(9999, 50, 0);
            return x.told(4);
        });
        Edge.asked(Edge.SOME, "the same again", 0, x -> x.year(77, 50, 1) - x.year(77, 50, 1));
    }

    // ---- promise 27

    private static void imageOutside() {
        Edge.says("27 OUTSIDE (an IMAGE 0, 1)");
        Edge.due("image(0)", new NodTax().image(0), 1);
        Edge.due("image(1)", new NodTax().image(1), 1);
        Edge.alwaysRefusedBeyond("image", 0, 1, NodTax.OUTSIDE, (x, v) -> x.image(v));
    }

    private static void imageAnew() {
        Edge.says("27 is kept: anew, and each by itself");
        NodTax x = new NodTax();
        x.set(0, 1);
        x.image(0);
        x.set(0, 2);
        x.image(1);
        x.set(0, 3);
        Edge.due("image(0) again", x.image(0), 1);
        x.set(0, 4);
        Edge.due("restore(1)", x.restore(1), 1);
        Edge.due("the other", x.told(3), 2);
        Edge.due("restore(0)", x.restore(0), 1);
        Edge.due("the later", x.told(3), 3);
    }

    private static void imageWithoutThePad() {
        Edge.says("27 All but the PAD");
        NodTax x = Edge.made(Edge.MOST);
        x.wipe();
        x.image(0);
        Check.text(x, "hx");
        x.restore(0);
        Edge.due("signs put since stay", x.told(0), 2);
        Edge.due("and their fault", x.fault(), 1);
        x.image(1);
        x.wipe();
        x.restore(1);
        Edge.due("signs gone since stay away", x.told(0), 0);
        NodTax full = Edge.made(Edge.MOST);
        full.restore(0);
        Edge.due("the full PAD stays full", full.say('h'), NodTax.FULL);
    }

    private static void imageOfNothingAndOfMost() {
        Edge.says("27 of the full church, and of the empty one");
        NodTax x = Edge.made(Edge.MOST);
        x.church(1);
        x.restore(0);
        int[] most = {60, 3, 255, 9, 9, 1, 1};
        for (int what = 0; what < most.length; what++) {
            Edge.due("told(" + what + ") of the full one", x.told(what), most[what]);
        }
        NodTax y = new NodTax();
        y.image(1);
        y.church(3);
        y.hearer(0, 11, 20, 5, 1, true);
        y.set(0, 9);
        y.set(1, 9);
        y.set(2, 2);
        y.seen(0, 0);
        y.restore(1);
        int[] empty = {0, 2, 0, 4, 1, 0, 0};
        for (int what = 0; what < empty.length; what++) {
            Edge.due("told(" + what + ") of the empty one", y.told(what), empty[what]);
        }
        Edge.due("told(10) of the empty one", y.told(10), NodTax.OUTSIDE);
        Edge.due("seat 8 is none again", y.hearer(0, 8, 1, 1, 1, false), NodTax.UNKNOWN);
    }

    // ---- promise 28

    private static void restoreOutside() {
        Edge.says("28 OUTSIDE");
        Edge.alwaysRefusedBeyond("restore", 0, 1, NodTax.OUTSIDE, (x, v) -> x.restore(v));
    }

    private static void restoreState() {
        Edge.says("28 STATE: it was not");
        Edge.refused(Edge.NOTHING, "neither", NodTax.STATE, x -> x.restore(0));
        Edge.refused(Edge.NOTHING, "neither", NodTax.STATE, x -> x.restore(1));
        Edge.refused(Edge.SOME, "the other is", NodTax.STATE, x -> x.restore(1));
        Edge.refused(x -> x.image(1), "the other is", NodTax.STATE, x -> x.restore(0));
        Edge.refused(x -> x.image(2), "a refused one", NodTax.STATE, x -> x.restore(0));
    }

    private static void restoreFirstRefusal() {
        Edge.says("28 OUTSIDE; STATE, the first of these");
        Edge.refusedBeyond(Edge.NOTHING, "none is kept", 0, 1, NodTax.OUTSIDE, (x, v) -> x.restore(v));
    }

    private static void restoreAsItWas() {
        Edge.says("28 It is as it was when it was kept");
        NodTax x = Edge.made(Edge.MOST);
        x.church(1);
        x.hearer(7, 0, 0, 0, 0, true);
        x.set(0, 1);
        x.set(1, 0);
        Edge.due("restore(1)", x.restore(1), 1);
        int[] due = {60, 3, 255, 9, 9, 2, 8};
        for (int what = 0; what < due.length; what++) {
            Edge.due("told(" + what + ")", x.told(what), due[what]);
        }
        for (int h = 0; h < 8; h++) {
            int[] his = {h < 7 ? h : 11, 20 - h, h % 6, h % 2, h == 3 ? 1 : 0};
            for (int k = 0; k < 5; k++) {
                Edge.due("told(" + (10 + 10 * h + k) + ")", x.told(10 + 10 * h + k), his[k]);
            }
        }
        Edge.due("a ninth SIGHT", x.seen(0, 0), NodTax.FULL);
        Edge.due("seat 11 is his", x.hearer(0, 11, 1, 1, 1, false), NodTax.STATE);
    }

    private static void restoreSights() {
        Edge.says("28 as it was: each of eight SIGHTS");
        for (int n = 0; n < 2; n++) {
            NodTax x = new NodTax();
            x.hearer(0, 0, 3, 1, 0, false);
            Check.text(x, "whhhhh");
            for (int i = 0; i < 8; i++) {
                x.seen(i % 5, 0);
            }
            x.image(n);
            x.forget();
            for (int i = 0; i < 8; i++) {
                x.seen(59, 8);
            }
            Edge.due("none fits", x.preached(-1), 0);
            x.restore(n);
            Edge.due("one order fits", x.preached(-1), 1);
            Edge.due("w is its last", x.preached(5), 'w');
            Edge.due("forget", x.forget(), 8);
        }
    }

    private static void restoreKeepsImages() {
        Edge.says("28 the IMAGES stay as they were kept");
        NodTax x = Edge.made(Edge.SOME);
        for (int times = 0; times < 3; times++) {
            Edge.due("restore(0)", x.restore(0), 1);
            Edge.due("TAX", x.told(4), 3);
            Edge.due("HEARERS", x.told(2), 35);
            Edge.due("SIGHTS", x.told(6), 2);
            Edge.due("the seat", x.told(10), 0);
            x.set(1, 9);
            x.hearer(0, 7, 20, 5, 1, true);
            x.leave(1);
            x.forget();
            x.church(3);
        }
        Edge.due("the other is still not kept", x.restore(1), NodTax.STATE);
    }

    // ---- promise 29

    private static void toldNothingAndMost() {
        Edge.says("29 0 signs, 1 ROWS, 2 HEARERS (bits), 3 REACH, 4 TAX, 5 the INSPECTOR's ROW, 6 SIGHTS");
        int[] nothing = {0, 2, 0, 4, 1, 0, 0};
        int[] most = {60, 3, 255, 9, 9, 2, 8};
        int[] least = {0, 1, 0, 1, 0, 0, 0};
        Edge.Making small = x -> {
            x.church(1);
            x.set(0, 1);
            x.set(1, 0);
        };
        for (int what = 0; what < 7; what++) {
            int w = what;
            Edge.asked(Edge.NOTHING, "told(" + w + ") of nothing", nothing[w], x -> x.told(w));
            Edge.asked(Edge.MOST, "told(" + w + ") of the most", most[w], x -> x.told(w));
            Edge.asked(small, "told(" + w + ") of the least", least[w], x -> x.told(w));
        }
    }

    private static void toldOfHearers() {
        Edge.says("29 10 times (1 and a HEARER who is there) and 0 SEAT, 1 AWAKE, 2 DULL, 3 CREED, 4 UPRIGHT (1, 0)");
        Edge.Making ends = x -> {
            x.church(3);
            x.hearer(0, 0, 0, 0, 0, false);
            x.hearer(7, 11, 20, 5, 1, true);
        };
        int[] high = {11, 20, 5, 1, 1};
        for (int k = 0; k < 5; k++) {
            int detail = k;
            Edge.asked(ends, "of hearer 0, " + k, 0, x -> x.told(10 + detail));
            Edge.asked(ends, "of hearer 7, " + k, high[k], x -> x.told(80 + detail));
        }
    }

    private static void toldOutside() {
        Edge.says("29 OUTSIDE");
        for (int what = -20; what < 120; what++) {
            int w = what;
            boolean isState = w >= 0 && w < 7;
            boolean isHis = w >= 10 && w < 90 && w % 10 < 5;
            if (!isState) {
                Edge.refused(Edge.NOTHING, "told(" + w + ") of nobody", NodTax.OUTSIDE, x -> x.told(w));
            }
            if (!isState && !isHis) {
                Edge.refused(Edge.MOST, "told(" + w + ") of all", NodTax.OUTSIDE, x -> x.told(w));
            }
        }
        Edge.alwaysRefusedBeyond("told", 0, 84, NodTax.OUTSIDE, (x, v) -> x.told(v));
        for (int k = 0; k < 5; k++) {
            int detail = k;
            Edge.refused(Edge.SOME, "of who is not there", NodTax.OUTSIDE, x -> x.told(30 + detail));
            Edge.refused(Edge.SOME.and(x -> x.leave(5)), "of who has gone", NodTax.OUTSIDE, x -> x.told(60 + detail));
        }
        // 320 and 10 is where hearer 0 stands again when only bits are looked at
        Edge.refused(Edge.MOST, "told(330)", NodTax.OUTSIDE, x -> x.told(330));
    }
}
