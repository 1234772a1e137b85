/** The boundary cases of promises 1 to 8, sentence by sentence. */
final class ChurchEdgeTest {
    private static final Edge.Making FULL_PAD = Edge.text("o".repeat(60));

    /** One ROW, and somebody in each of its four SEATS. */
    private static final Edge.Making FULL_ROW = x -> {
        x.church(1);
        for (int h = 0; h < 4; h++) {
            x.hearer(h, h, 9, 1, 0, false);
        }
    };

    /** Two ROWS, and all eight in their eight SEATS. */
    private static final Edge.Making FULL_CHURCH = x -> {
        for (int h = 0; h < 8; h++) {
            x.hearer(h, h, 9, 1, 0, false);
        }
    };

    public static void main(String[] args) {
        newObjectTwoRows();
        newObjectNobodyThere();
        newObjectAtFirst();
        newObjectNoSermon();
        newObjectNothingToFind();
        newObjectOfItsOwn();
        callsUpTo512();
        churchRows();
        churchOutside();
        churchSeats();
        churchHearersGo();
        churchSightsGo();
        churchInspector();
        churchTheRestStays();
        hearerUnknownHearer();
        hearerUnknownSeat();
        hearerOutsideAwake();
        hearerOutsideDull();
        hearerOutsideCreed();
        hearerStateInFullChurch();
        hearerAnew();
        hearerHowMany();
        hearerFirstRefusal();
        leaveUnknown();
        leaveHowMany();
        leaveFreesSeat();
        setReach();
        setTax();
        setInspector();
        setWhich();
        sayCodes();
        sayFull();
        sayFirstRefusal();
        wipeEmptyAndFull();
        faultNone();
        faultEnds();
        faultFirstOfSeveral();
        faultEachCode();
        Check.end();
    }

    // ---- promise 1

    private static void newObjectTwoRows() {
        Edge.says("1 Two ROWS");
        Edge.asked(Edge.NOTHING, "told(1)", 2, x -> x.told(1));
        Edge.due("which it was", new NodTax().church(3), 2);
        Edge.due("seat 7", new NodTax().hearer(0, 7, 1, 1, 1, false), 1);
        Edge.refused(Edge.NOTHING, "seat 8", NodTax.UNKNOWN, x -> x.hearer(0, 8, 1, 1, 1, false));
    }

    private static void newObjectNobodyThere() {
        Edge.says("1 nobody is there");
        Edge.asked(Edge.NOTHING, "told(2)", 0, x -> x.told(2));
        for (int h = 0; h < 8; h++) {
            int hearer = h;
            Edge.refused(Edge.NOTHING, "leave(" + h + ")", NodTax.UNKNOWN, x -> x.leave(hearer));
            Edge.refused(Edge.NOTHING, "heard(" + h + ")", NodTax.UNKNOWN, x -> x.heard(hearer, 0, 0));
            Edge.refused(Edge.NOTHING, "dips(" + h + ")", NodTax.UNKNOWN, x -> x.dips(hearer, 0));
            Edge.due("every seat is free", new NodTax().hearer(0, h, 1, 1, 1, false), 1);
        }
    }

    private static void newObjectAtFirst() {
        Edge.says("1 (4 at first, 1 at first, 0 at first)");
        Edge.due("REACH", new NodTax().set(0, 9), 4);
        Edge.due("TAX", new NodTax().set(1, 9), 1);
        Edge.due("the INSPECTOR's ROW", new NodTax().set(2, 2), 0);
        Edge.due("signs", new NodTax().wipe(), 0);
        Edge.due("SIGHTS", new NodTax().forget(), 0);
        Edge.refused(Edge.NOTHING, "IMAGE 0", NodTax.STATE, x -> x.restore(0));
        Edge.refused(Edge.NOTHING, "IMAGE 1", NodTax.STATE, x -> x.restore(1));
    }

    private static void newObjectNoSermon() {
        Edge.says("1 the empty church hears the empty PAD");
        Edge.asked(Edge.NOTHING, "fault()", NodTax.NONE, x -> x.fault());
        for (int what = 0; what < 5; what++) {
            int w = what;
            Edge.asked(Edge.NOTHING, "sum(-1, " + w + ")", 0, x -> x.sum(-1, w));
            Edge.refused(Edge.NOTHING, "sum(0, " + w + ")", NodTax.OUTSIDE, x -> x.sum(0, w));
        }
        Edge.asked(Edge.NOTHING, "first(0)", NodTax.NONE, x -> x.first(0));
        Edge.asked(Edge.NOTHING, "first(1)", NodTax.NONE, x -> x.first(1));
        Edge.asked(Edge.NOTHING, "gain()", 10000, x -> x.gain());
        Edge.asked(Edge.NOTHING, "cold(5, 0, 0)", 1, x -> x.cold(5, 0, 0));
        Edge.asked(Edge.NOTHING, "cold(5, 0, 1)", 1, x -> x.cold(5, 0, 1));
        Edge.asked(Edge.NOTHING, "cold(5, 1, 0)", 0, x -> x.cold(5, 1, 0));
        Edge.asked(Edge.NOTHING, "cold(5, 1, 1)", 1, x -> x.cold(5, 1, 1));
    }

    private static void newObjectNothingToFind() {
        Edge.says("1 nothing to find in the empty church");
        Edge.asked(Edge.NOTHING, "order(0, -1)", 0, x -> x.order(0, -1));
        Edge.asked(Edge.NOTHING, "order(0, 0)", NodTax.NONE, x -> x.order(0, 0));
        Edge.asked(Edge.NOTHING, "order(1, -1)", 10000, x -> x.order(1, -1));
        Edge.asked(Edge.NOTHING, "order(1, 0)", NodTax.NONE, x -> x.order(1, 0));
        Edge.asked(Edge.NOTHING, "start(0)", 10000, x -> x.start(0));
        Edge.asked(Edge.NOTHING, "start(1)", 0, x -> x.start(1));
        Edge.asked(Edge.NOTHING, "seated(0)", 0, x -> x.seated(0));
        Edge.asked(Edge.NOTHING, "seated(1)", NodTax.NONE, x -> x.seated(1));
        Edge.asked(Edge.NOTHING, "hired(0, 0)", 0, x -> x.hired(0, 0));
        Edge.asked(Edge.NOTHING, "hired(0, 1)", 0, x -> x.hired(0, 1));
        Edge.asked(Edge.NOTHING, "least()", 1, x -> x.least());
        Edge.asked(Edge.NOTHING, "preached(-1)", 1, x -> x.preached(-1));
        Edge.asked(Edge.NOTHING, "preached(0)", NodTax.NONE, x -> x.preached(0));
        Edge.asked(Edge.NOTHING, "surely()", 0, x -> x.surely());
        Edge.asked(Edge.NOTHING, "alike(-1)", 0, x -> x.alike(-1));
        Edge.asked(Edge.NOTHING, "alike(0)", NodTax.NONE, x -> x.alike(0));
        Edge.asked(Edge.NOTHING, "parishes(-1)", 1, x -> x.parishes(-1));
        Edge.asked(Edge.NOTHING, "parishes(0)", 0, x -> x.parishes(0));
        Edge.asked(Edge.NOTHING, "year(1, 50, 2)", 50, x -> x.year(1, 50, 2));
    }

    private static void newObjectOfItsOwn() {
        Edge.says("1 a new object beside a used one");
        NodTax used = Edge.made(Edge.MOST);
        int[] due = {0, 2, 0, 4, 1, 0, 0};
        NodTax x = new NodTax();
        for (int what = 0; what < due.length; what++) {
            Edge.due("told(" + what + ")", x.told(what), due[what]);
        }
        Edge.due("no IMAGE", x.restore(0), NodTax.STATE);
        Edge.due("the used one has its signs", used.told(0), 60);
    }

    private static void callsUpTo512() {
        Edge.says("1 at most 512 calls");
        NodTax x = new NodTax();
        int calls = 0;
        for (; calls < 60; calls++) {
            x.say('o');
        }
        for (; calls < 510; calls++) {
            Edge.due("call " + calls, x.hearer(calls % 8, calls % 8, 20, 0, 0, false), Math.min(calls - 59, 8));
        }
        Edge.due("call 511", x.sum(-1, 3), 960);
        Edge.due("call 512", x.say('o'), NodTax.FULL);
    }

    // ---- promise 2

    private static void churchRows() {
        Edge.says("2 ROWS (1 to 3): which it was");
        NodTax x = new NodTax();
        Edge.due("church(1)", x.church(1), 2);
        Edge.due("church(1) again", x.church(1), 1);
        Edge.due("church(3)", x.church(3), 1);
        Edge.due("church(3) again", x.church(3), 3);
        Edge.due("church(2)", x.church(2), 3);
        Edge.due("told(1)", x.told(1), 2);
    }

    private static void churchOutside() {
        Edge.says("2 OUTSIDE");
        Edge.alwaysRefusedBeyond("church", 1, 3, NodTax.OUTSIDE, (x, v) -> x.church(v));
    }

    private static void churchSeats() {
        Edge.says("2 ROWS of 4 SEATS");
        for (int rows = 1; rows <= 3; rows++) {
            int r = rows;
            Edge.Making church = x -> x.church(r);
            Edge.due("the last seat of " + r, Edge.made(church).hearer(0, 4 * r - 1, 1, 1, 1, false), 1);
            Edge.refused(church, "no seat behind " + r, NodTax.UNKNOWN, x -> x.hearer(0, 4 * r, 1, 1, 1, false));
        }
    }

    private static void churchHearersGo() {
        Edge.says("2 HEARERS go");
        for (int rows = 1; rows <= 3; rows++) {
            NodTax x = Edge.made(Edge.MOST);
            x.church(rows);
            Edge.due("nobody is there", x.told(2), 0);
            for (int h = 0; h < 8; h++) {
                Edge.due("leave(" + h + ")", x.leave(h), NodTax.UNKNOWN);
                Edge.due("told of " + h, x.told(10 * (1 + h)), NodTax.OUTSIDE);
            }
            for (int h = 0; h < 4 * rows && h < 8; h++) {
                Edge.due("every seat is free", x.hearer(h, h, 0, 0, 0, false), h + 1);
            }
            Edge.due("nobody is UPRIGHT from before", x.told(44), 0);
        }
    }

    private static void churchSightsGo() {
        Edge.says("2 SIGHTS go");
        NodTax x = Edge.made(Edge.MOST);
        x.church(3);
        Edge.due("told(6)", x.told(6), 0);
        Edge.due("forget", x.forget(), 0);
        Check.text(x, "wh");
        Edge.due("all orders fit", x.preached(-1), 2);
        Edge.due("the first anew", x.seen(0, 0), 1);
    }

    private static void churchInspector() {
        Edge.says("2 the INSPECTOR is in ROW 0");
        for (int rows = 1; rows <= 3; rows++) {
            NodTax x = Edge.made(Edge.MOST);
            x.church(rows);
            Edge.due("told(5)", x.told(5), 0);
            Edge.due("which it was", x.set(2, 0), 0);
        }
    }

    private static void churchTheRestStays() {
        Edge.says("2 what is not named stays");
        NodTax x = Edge.made(Edge.MOST);
        x.church(3);
        Edge.due("REACH", x.told(3), 9);
        Edge.due("TAX", x.told(4), 9);
        Edge.due("signs", x.told(0), 60);
        Edge.due("no fault", x.fault(), NodTax.NONE);
        Edge.due("IMAGE 1", x.restore(1), 1);
        Edge.due("all are back", x.told(2), 255);
    }

    // ---- promise 3

    private static void hearerUnknownHearer() {
        Edge.says("3 UNKNOWN: both (there is no such HEARER)");
        Edge.due("hearer 0", new NodTax().hearer(0, 0, 1, 1, 1, false), 1);
        Edge.due("hearer 7", new NodTax().hearer(7, 0, 1, 1, 1, false), 1);
        Edge.alwaysRefusedBeyond("hearer", 0, 7, NodTax.UNKNOWN, (x, v) -> x.hearer(v, 3, 1, 1, 1, false));
    }

    private static void hearerUnknownSeat() {
        Edge.says("3 UNKNOWN: both (there is no such SEAT)");
        for (int rows = 1; rows <= 3; rows++) {
            int r = rows;
            Edge.Making church = x -> x.church(r);
            Edge.due("seat 0", Edge.made(church).hearer(4, 0, 1, 1, 1, false), 1);
            Edge.due("seat " + (4 * r - 1), Edge.made(church).hearer(4, 4 * r - 1, 1, 1, 1, false), 1);
            Edge.refusedBeyond(church, "seat of " + r + " rows", 0, 4 * r - 1, NodTax.UNKNOWN,
                    (x, v) -> x.hearer(4, v, 1, 1, 1, false));
        }
        Edge.refusedBeyond(Edge.MOST, "anew", 0, 11, NodTax.UNKNOWN, (x, v) -> x.hearer(0, v, 1, 1, 1, false));
    }

    private static void hearerOutsideAwake() {
        Edge.says("3 OUTSIDE (AWAKE 0 to 20)");
        Edge.due("awake 0", new NodTax().hearer(0, 0, 0, 1, 1, false), 1);
        Edge.due("awake 20", new NodTax().hearer(0, 0, 20, 1, 1, false), 1);
        Edge.alwaysRefusedBeyond("awake", 0, 20, NodTax.OUTSIDE, (x, v) -> x.hearer(0, 0, v, 1, 1, false));
    }

    private static void hearerOutsideDull() {
        Edge.says("3 OUTSIDE (DULL 0 to 5)");
        Edge.due("dull 0", new NodTax().hearer(0, 0, 1, 0, 1, false), 1);
        Edge.due("dull 5", new NodTax().hearer(0, 0, 1, 5, 1, false), 1);
        Edge.alwaysRefusedBeyond("dull", 0, 5, NodTax.OUTSIDE, (x, v) -> x.hearer(0, 0, 1, v, 1, false));
    }

    private static void hearerOutsideCreed() {
        Edge.says("3 OUTSIDE (a CREED 0, 1)");
        Edge.due("creed 0", new NodTax().hearer(0, 0, 1, 1, 0, false), 1);
        Edge.due("creed 1", new NodTax().hearer(0, 0, 1, 1, 1, false), 1);
        Edge.alwaysRefusedBeyond("creed", 0, 1, NodTax.OUTSIDE, (x, v) -> x.hearer(0, 0, 1, 1, v, true));
    }

    private static void hearerStateInFullChurch() {
        Edge.says("3 STATE: another one sits there");
        for (int seat = 0; seat < 4; seat++) {
            int s = seat;
            Edge.refused(FULL_ROW, "a fifth in seat " + s, NodTax.STATE, x -> x.hearer(4, s, 9, 1, 0, false));
        }
        Edge.refused(FULL_ROW, "a fifth behind all", NodTax.UNKNOWN, x -> x.hearer(4, 4, 9, 1, 0, false));
        for (int h = 0; h < 8; h++) {
            int hearer = h;
            Edge.refused(FULL_CHURCH, h + " beside his own seat", NodTax.STATE,
                    x -> x.hearer(hearer, (hearer + 1) % 8, 9, 1, 0, false));
        }
    }

    private static void hearerAnew() {
        Edge.says("3 (or anew)");
        NodTax x = Edge.made(FULL_CHURCH);
        for (int h = 0; h < 8; h++) {
            Edge.due(h + " in his own seat", x.hearer(h, h, 20, 5, 1, true), 8);
            Edge.due("as told now", 1000 * x.told(11 + 10 * h) + 100 * x.told(12 + 10 * h) + 10 * x.told(13 + 10 * h)
                    + x.told(14 + 10 * h), 20511);
        }
        Edge.due("upright no more", x.hearer(7, 7, 0, 0, 0, false), 8);
        Edge.due("told(84)", x.told(84), 0);
        NodTax y = Edge.made(FULL_ROW);
        y.leave(3);
        Edge.due("0 goes to the free seat", y.hearer(0, 3, 9, 1, 0, false), 3);
        Edge.due("his old one is free", y.hearer(3, 0, 9, 1, 0, false), 4);
        Edge.due("he sits in the new one", y.hearer(4, 3, 9, 1, 0, false), NodTax.STATE);
    }

    private static void hearerHowMany() {
        Edge.says("3 how many are");
        NodTax x = new NodTax();
        for (int h = 7; h >= 0; h--) {
            Edge.due("hearer " + h, x.hearer(h, h, 1, 1, 1, false), 8 - h);
        }
        Edge.due("all eight", x.told(2), 255);
    }

    private static void hearerFirstRefusal() {
        Edge.says("3 UNKNOWN; OUTSIDE; STATE, the first of these");
        int[][] wrong = {{21, 0, 0}, {-1, 0, 0}, {0, 6, 0}, {0, -1, 0}, {0, 0, 2}, {0, 0, -1}};
        for (int[] w : wrong) {
            Edge.refused(FULL_CHURCH, "no hearer, outside", NodTax.UNKNOWN, x -> x.hearer(8, 0, w[0], w[1], w[2], true));
            Edge.refused(FULL_CHURCH, "no seat, outside", NodTax.UNKNOWN, x -> x.hearer(0, 8, w[0], w[1], w[2], true));
            Edge.refused(FULL_CHURCH, "outside, taken", NodTax.OUTSIDE, x -> x.hearer(0, 1, w[0], w[1], w[2], true));
        }
        Edge.refused(FULL_CHURCH, "no hearer, taken", NodTax.UNKNOWN, x -> x.hearer(-1, 1, 1, 1, 1, true));
        Edge.refused(FULL_CHURCH, "neither", NodTax.UNKNOWN, x -> x.hearer(8, -1, 1, 1, 1, true));
    }

    // ---- promise 4

    private static void leaveUnknown() {
        Edge.says("4 UNKNOWN: he was not");
        Edge.alwaysRefusedBeyond("leave", 0, 7, NodTax.UNKNOWN, (x, v) -> x.leave(v));
        Edge.refused(Edge.SOME, "leave(2)", NodTax.UNKNOWN, x -> x.leave(2));
        Edge.refused(Edge.SOME.and(x -> x.leave(5)), "twice", NodTax.UNKNOWN, x -> x.leave(5));
        // 32 places on in a word of bits stands hearer 0 again
        Edge.refused(Edge.MOST, "leave(32)", NodTax.UNKNOWN, x -> x.leave(32));
    }

    private static void leaveHowMany() {
        Edge.says("4 how many are there");
        NodTax x = Edge.made(FULL_CHURCH);
        for (int h = 0; h < 8; h++) {
            Edge.due("leave(" + h + ")", x.leave(h), 7 - h);
        }
        Edge.due("nobody", x.told(2), 0);
    }

    private static void leaveFreesSeat() {
        Edge.says("4 a HEARER goes");
        NodTax x = Edge.made(FULL_ROW);
        x.hearer(2, 2, 9, 1, 0, true);
        x.leave(2);
        Edge.due("another one in his seat", x.hearer(7, 2, 9, 1, 0, false), 4);
        Edge.due("his seat is taken", x.hearer(2, 2, 9, 1, 0, false), NodTax.STATE);
        Edge.due("nothing is told of him", x.told(34), NodTax.OUTSIDE);
        NodTax y = Edge.made(Edge.MOST);
        y.leave(3);
        int[] due = {60, 3, 247, 9, 9, 2, 8};
        for (int what = 0; what < due.length; what++) {
            Edge.due("the rest stays, told(" + what + ")", y.told(what), due[what]);
        }
    }

    // ---- promise 5

    private static void ends(int which, int atFirst, int low, int high) {
        Edge.due("to " + low, Edge.made(Edge.NOTHING).set(which, low), atFirst);
        NodTax x = new NodTax();
        x.set(which, low);
        Edge.due("to " + high, x.set(which, high), low);
        Edge.due("again", x.set(which, high), high);
        Edge.due("told", x.told(3 + which), high);
        Edge.due("back", x.set(which, low), high);
        Edge.alwaysRefusedBeyond("set", low, high, NodTax.OUTSIDE, (y, v) -> y.set(which, v));
    }

    private static void setReach() {
        Edge.says("5 REACH (REACH 1 to 9; 4 at first)");
        ends(0, 4, 1, 9);
    }

    private static void setTax() {
        Edge.says("5 TAX (0 to 9 pence; 1 at first)");
        ends(1, 1, 0, 9);
    }

    private static void setInspector() {
        Edge.says("5 the INSPECTOR's ROW (0 to 2; 0 at first)");
        ends(2, 0, 0, 2);
        NodTax x = Edge.made(y -> y.church(1));
        Edge.due("behind the only row", x.set(2, 2), 0);
        Edge.due("told", x.told(5), 2);
    }

    private static void setWhich() {
        Edge.says("5 OUTSIDE (which)");
        Edge.alwaysRefusedBeyond("which", 0, 2, NodTax.OUTSIDE, (x, which) -> x.set(which, 1));
        Edge.alwaysRefusedBeyond("which, and v too", 0, 2, NodTax.OUTSIDE, (x, which) -> x.set(which, 10));
    }

    // ---- promises 6 and 7

    private static void sayCodes() {
        Edge.says("6 OUTSIDE (codes 33 to 126)");
        Edge.due("code 33", new NodTax().say(33), 1);
        Edge.due("code 126", new NodTax().say(126), 1);
        Edge.refusedBeyond(Edge.NOTHING, "say", 33, 126, NodTax.OUTSIDE, (x, v) -> x.say(v));
        Edge.refusedBeyond(Edge.SOME, "say", 33, 126, NodTax.OUTSIDE, (x, v) -> x.say(v));
        // these are an h again when only the last eight or sixteen bits are kept
        Edge.refused(Edge.SOME, "h and 256", NodTax.OUTSIDE, x -> x.say('h' + 256));
        Edge.refused(Edge.SOME, "h and 65536", NodTax.OUTSIDE, x -> x.say('h' + 65536));
        Edge.refused(Edge.SOME, "h less 256", NodTax.OUTSIDE, x -> x.say('h' - 256));
        Edge.refused(Edge.SOME, "0", NodTax.OUTSIDE, x -> x.say(0));
    }

    private static void sayFull() {
        Edge.says("6 FULL (60 SIGNS at most)");
        NodTax x = Edge.made(Edge.text("o".repeat(59)));
        Edge.due("the sixtieth", x.say('o'), 60);
        Edge.due("the sixty-first", x.say('o'), NodTax.FULL);
        Edge.refused(FULL_PAD, "say(33)", NodTax.FULL, y -> y.say(33));
        Edge.refused(FULL_PAD, "say(126)", NodTax.FULL, y -> y.say(126));
        Edge.refused(Edge.MOST, "say('h')", NodTax.FULL, y -> y.say('h'));
    }

    private static void sayFirstRefusal() {
        Edge.says("6 OUTSIDE; FULL, the first of these");
        Edge.refusedBeyond(FULL_PAD, "say", 33, 126, NodTax.OUTSIDE, (x, v) -> x.say(v));
        Edge.refusedBeyond(Edge.MOST, "say", 33, 126, NodTax.OUTSIDE, (x, v) -> x.say(v));
    }

    private static void wipeEmptyAndFull() {
        Edge.says("7 Signs go: how many there were");
        Edge.asked(Edge.NOTHING, "the empty PAD", 0, x -> x.wipe());
        NodTax x = Edge.made(Edge.MOST);
        Edge.due("the full PAD", x.wipe(), 60);
        Edge.due("twice", x.wipe(), 0);
        int[] due = {0, 3, 255, 9, 9, 2, 8};
        for (int what = 0; what < due.length; what++) {
            Edge.due("the rest stays, told(" + what + ")", x.told(what), due[what]);
        }
        Edge.due("no minute is left", x.heard(0, 0, 0), NodTax.OUTSIDE);
        Edge.due("room again", x.say('x'), 1);
        Edge.due("one sign", x.wipe(), 1);
        Edge.due("its fault went, too", x.fault(), NodTax.NONE);
    }

    // ---- promise 8

    private static void faultNone() {
        Edge.says("8 NONE");
        Edge.asked(Edge.NOTHING, "the empty PAD", NodTax.NONE, x -> x.fault());
        Edge.asked(Edge.MOST, "the full PAD", NodTax.NONE, x -> x.fault());
        Edge.asked(Edge.text("n"), "a name in the empty church", NodTax.NONE, x -> x.fault());
        Edge.asked(Edge.text("n").and(x -> x.church(1)), "and in a new one", NodTax.NONE, x -> x.fault());
    }

    private static void faultEnds() {
        Edge.says("8 the place (from 0 on)");
        Edge.asked(Edge.text("x"), "the first place", 0, x -> x.fault());
        Edge.asked(Edge.text("o".repeat(59) + "x"), "the last place", 59, x -> x.fault());
        Edge.asked(Edge.text("x" + "o".repeat(59)), "the first of sixty", 0, x -> x.fault());
    }

    private static void faultFirstOfSeveral() {
        Edge.says("8 of the first sign");
        Edge.asked(Edge.text("ozx!"), "of three", 1, x -> x.fault());
        Edge.asked(Edge.text("z".repeat(60)), "of sixty", 0, x -> x.fault());
    }

    private static void faultEachCode() {
        Edge.says("8 that can not stand there");
        for (int code = 33; code <= 126; code++) {
            NodTax x = new NodTax();
            x.say(code);
            boolean may = "whonc~s".indexOf(code) >= 0;
            Edge.due("code " + code, x.fault(), may ? NodTax.NONE : 0);
        }
    }
}
