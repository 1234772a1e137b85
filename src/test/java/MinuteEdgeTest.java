/** The boundary cases of promises 9 to 12, and of what a minute is, sentence by sentence. */
final class MinuteEdgeTest {
    private static final Edge.Making SLEEPERS = x -> {
        for (int h = 0; h < 8; h++) {
            x.hearer(h, h, 0, 0, 0, false);
        }
        x.set(1, 9);
    };
    private static final Edge.Making WAKEFUL = x -> {
        for (int h = 0; h < 8; h++) {
            x.hearer(h, h, 20, 0, 1, false);
        }
        x.set(1, 9);
    };
    private static final Edge.Making FAULTY = Edge.SOME.and(Edge.text("whx"));
    private static final Edge.Making FAULTY_FULL = Edge.SOME.and(Edge.text("h".repeat(59) + "x"));

    public static void main(String[] args) {
        zeroAtLeast();
        awakeAtMost();
        bothTogether();
        startReach();
        startRows();
        startsAhead();
        namesOverAndOver();
        namesOfWhoIsThere();
        nodsAtZero();
        uprightNever();
        snoresBetweenTwo();
        snoresInHisRow();
        elbowedByTheNextSeat();
        elbowedAwakeAtMost();
        elbowedAllAtOnce();
        agrees();
        countedFromHisRow();
        countedPence();
        offerings();
        heardUnknown();
        heardWhat();
        heardMinute();
        heardFirstRefusal();
        sumMinute();
        sumWhat();
        sumMost();
        sumFirstRefusal();
        firstMinute();
        firstNone();
        firstRefusals();
        gainEnds();
        gainNo();
        Check.end();
    }

    private static NodTax alone(int seat, int awake, int dull, String text) {
        NodTax x = new NodTax();
        x.church(3);
        x.hearer(4, seat, awake, dull, 0, false);
        Check.text(x, text);
        return x;
    }

    private static void levels(NodTax x, int hearer, int... due) {
        for (int m = 0; m < due.length; m++) {
            Edge.due("hearer " + hearer + " behind minute " + m, x.heard(hearer, m, 0), due[m]);
        }
    }

    // ---- what a minute is

    private static void zeroAtLeast() {
        Edge.says("9 (then 0 at least)");
        levels(alone(0, 2, 5, "w"), 4, 0);
        levels(alone(0, 20, 0, "wwwwwwwwwwwh"), 4, 18, 16, 14, 12, 10, 8, 6, 4, 2, 0, 0, 3);
        levels(alone(0, 0, 5, "wch"), 4, 0, 0, 0);
    }

    private static void awakeAtMost() {
        Edge.says("9 AWAKE at most");
        for (String sign : new String[] {"h", "~", "n", "s"}) {
            levels(alone(0, 4, 0, "w" + sign), 4, 2, 4);
        }
        levels(alone(0, 4, 0, "woo"), 4, 2, 3, 4);
        levels(alone(0, 20, 0, "hon~s"), 4, 20, 20, 20, 20, 20);
        levels(alone(0, 0, 0, "hon~s"), 4, 0, 0, 0, 0, 0);
    }

    private static void bothTogether() {
        Edge.says("9 both together");
        // one after the other he would be 0 in between, and 3 then
        levels(alone(0, 4, 3, "ch"), 4, 1, 1);
        // one after the other, the sign first, he would be 2
        levels(alone(0, 3, 1, "h"), 4, 3);
    }

    private static void startReach() {
        Edge.says("9 those in ROW 0 are REACH more (REACH 1 to 9)");
        for (int seat = 0; seat < 4; seat++) {
            NodTax x = alone(seat, 20, 2, "wwwws");
            levels(x, 4, 16, 12, 8, 4, 6);
            x.set(0, 1);
            levels(x, 4, 16, 12, 8, 4, 3);
            x.set(0, 9);
            levels(x, 4, 16, 12, 8, 4, 11);
        }
    }

    private static void startRows() {
        Edge.says("9 by each ROW farther 2 less than that (0 at least)");
        for (int column = 0; column < 4; column++) {
            NodTax x = alone(4 + column, 20, 2, "wwwws");
            NodTax y = alone(8 + column, 20, 2, "wwwws");
            Edge.due("ROW 1", x.heard(4, 4, 0), 4);
            Edge.due("ROW 2, nothing", y.heard(4, 4, 0), 2);
            x.set(0, 1);
            y.set(0, 1);
            Edge.due("ROW 1, not less than nothing", x.heard(4, 4, 0), 2);
            Edge.due("ROW 2, not less than nothing", y.heard(4, 4, 0), 2);
            x.set(0, 9);
            y.set(0, 9);
            Edge.due("ROW 1, 7", x.heard(4, 4, 0), 9);
            Edge.due("ROW 2, 5", y.heard(4, 4, 0), 7);
        }
    }

    private static void startsAhead() {
        Edge.says("9 by each start ahead in the same SERMON 1 less (0 at least)");
        NodTax x = alone(0, 20, 5, "sssssssssss");
        x.set(0, 9);
        levels(x, 4, 20, 20, 20, 20, 20, 19, 17, 14, 10, 5, 0);
        NodTax y = alone(0, 20, 2, "sss");
        y.set(0, 1);
        levels(y, 4, 19, 17, 15);
        levels(alone(11, 20, 1, "ss"), 4, 19, 18);
        // the starts between which others stand count, too
        levels(alone(0, 20, 5, "swsws"), 4, 19, 12, 10, 3, 0);
        Edge.due("asked again, none is ahead", x.heard(4, 0, 0), 20);
    }

    private static void namesOverAndOver() {
        Edge.says("9 n: from the least on, over and over, one turn for each n");
        NodTax x = Edge.made(WAKEFUL);
        Check.text(x, "wwwwwnnnnnnnnn");
        for (int h = 0; h < 8; h++) {
            Edge.due(h + " ahead of his turn", x.heard(h, 4 + h, 0), 10);
            Edge.due(h + " in his turn", x.heard(h, 5 + h, 0), 15);
            Edge.due(h + " in the ninth", x.heard(h, 13, 0), h == 0 ? 20 : 15);
        }
        levels(alone(0, 20, 0, "wwwwwwwwnnn"), 4, 18, 16, 14, 12, 10, 8, 6, 4, 9, 14, 19);
    }

    private static void namesOfWhoIsThere() {
        Edge.says("9 n: of HEARERS who are there");
        NodTax x = new NodTax();
        x.hearer(1, 0, 20, 0, 0, true);
        x.hearer(7, 7, 20, 0, 0, false);
        Check.text(x, "wwwnwnn");
        levels(x, 1, 18, 16, 14, 19, 17, 17, 20);
        levels(x, 7, 18, 16, 14, 14, 12, 17, 17);
        NodTax nobody = Edge.made(Edge.text("nn"));
        Edge.due("nobody is named", nobody.sum(-1, 1), 0);
        Edge.due("no minute more", nobody.sum(2, 1), NodTax.OUTSIDE);
    }

    private static void nodsAtZero() {
        Edge.says("9 who is 0 awake NODS");
        Edge.due("at 1", alone(0, 1, 0, "c").heard(4, 0, 1), 0);
        Edge.due("at 0", alone(0, 0, 0, "c").heard(4, 0, 1), 1);
        Edge.due("from 2 to 1", alone(0, 2, 1, "cc").heard(4, 0, 1), 0);
        Edge.due("and to 0", alone(0, 2, 1, "cc").heard(4, 1, 1), 1);
        Edge.due("awake again", alone(0, 2, 0, "wh").heard(4, 1, 1), 0);
    }

    private static void uprightNever() {
        Edge.says("9 an UPRIGHT one never dips");
        NodTax x = new NodTax();
        for (int seat = 0; seat < 4; seat++) {
            x.hearer(seat, seat, 0, 5, 1, true);
        }
        Check.text(x, "wc");
        for (int h = 0; h < 4; h++) {
            Edge.due("awake " + h, x.heard(h, 1, 0), 0);
            Edge.due("NODS " + h, x.heard(h, 1, 1), 0);
            Edge.due("agrees " + h, x.heard(h, 1, 2), 0);
            Edge.due("SNORES " + h, x.heard(h, 1, 3), 0);
        }
        Edge.due("DIPS", x.sum(-1, 1), 0);
    }

    private static void snoring(String when, NodTax x, int... due) {
        for (int h = 0; h < due.length; h++) {
            Edge.due(when + ", hearer " + h, x.heard(h, 0, 3), due[h]);
        }
    }

    private static void snoresBetweenTwo() {
        Edge.says("9 who NODS between two who NOD SNORES");
        NodTax x = new NodTax();
        x.hearer(0, 4, 0, 0, 0, false);
        x.hearer(1, 5, 0, 0, 0, false);
        Check.text(x, "c");
        snoring("an empty seat", x, 0, 0);
        x.hearer(2, 6, 0, 0, 0, false);
        snoring("three", x, 0, 1, 0);
        x.hearer(3, 7, 0, 0, 0, false);
        snoring("four", x, 0, 1, 1, 0);
        x.hearer(2, 6, 0, 0, 0, true);
        snoring("an UPRIGHT one", x, 0, 0, 0, 0);
        x.hearer(2, 6, 1, 0, 0, false);
        snoring("one who is 1 awake", x, 0, 0, 0, 0);
        x.hearer(2, 6, 0, 0, 0, false);
        x.hearer(1, 5, 1, 0, 0, false);
        snoring("who does not NOD himself", x, 0, 0, 0, 0);
    }

    private static void snoresInHisRow() {
        Edge.says("9 in both SEATS beside his in his ROW");
        NodTax x = new NodTax();
        x.church(3);
        for (int h = 0; h < 8; h++) {
            x.hearer(h, h + 2, 0, 0, 0, false);
        }
        Check.text(x, "c");
        // seats 2, 3; 4 to 7; 8, 9
        snoring("seats 2 to 9", x, 0, 0, 0, 1, 1, 0, 0, 0);
        x.church(3);
        for (int h = 0; h < 8; h++) {
            x.hearer(h, h + 4, 0, 0, 0, false);
        }
        snoring("seats 4 to 11", x, 0, 1, 1, 0, 0, 1, 1, 0);
    }

    private static void elbowedByTheNextSeat() {
        Edge.says("9 beside whom (in his ROW, the next SEAT) somebody sits who does not NOD");
        for (int sleeper = 0; sleeper < 12; sleeper++) {
            for (int other = 0; other < 12; other++) {
                if (other != sleeper) {
                    NodTax x = alone(sleeper, 5, 5, "c");
                    x.hearer(0, other, 20, 0, 0, false);
                    boolean beside = Math.abs(other - sleeper) == 1 && other / 4 == sleeper / 4;
                    Edge.due("seat " + sleeper + " by " + other, x.heard(4, 0, 0), beside ? 2 : 0);
                }
            }
        }
        NodTax x = alone(1, 5, 5, "c");
        x.hearer(0, 0, 0, 0, 0, false);
        Edge.due("not by one who NODS", x.heard(4, 0, 0), 0);
        x.hearer(0, 0, 0, 0, 0, true);
        Edge.due("by an UPRIGHT one", x.heard(4, 0, 0), 2);
        x.hearer(0, 0, 1, 0, 1, false);
        Edge.due("by one who agrees", x.heard(4, 0, 0), 2);
        x.hearer(0, 2, 0, 0, 0, false);
        x.hearer(1, 0, 20, 0, 0, false);
        Edge.due("one of two is enough", x.heard(4, 0, 0), 2);
    }

    private static void elbowedAwakeAtMost() {
        Edge.says("9 he is 2 awake (AWAKE at most)");
        int[] due = {0, 1, 2, 2, 2, 2};
        for (int awake = 0; awake < due.length; awake++) {
            NodTax x = alone(0, awake, 5, "c");
            x.hearer(0, 1, 20, 0, 0, false);
            Edge.due("AWAKE " + awake, x.heard(4, 0, 0), due[awake]);
            Edge.due("he has nodded", x.heard(4, 0, 1), 1);
        }
    }

    private static void elbowedAllAtOnce() {
        Edge.says("9 then each who NODS is elbowed");
        NodTax x = new NodTax();
        x.hearer(0, 0, 20, 0, 0, false);
        x.hearer(1, 1, 5, 5, 0, false);
        x.hearer(2, 2, 5, 5, 0, false);
        x.hearer(3, 3, 5, 5, 0, false);
        Check.text(x, "c");
        levels(x, 1, 2);
        levels(x, 2, 0);
        levels(x, 3, 0);
        Edge.due("who is elbowed still makes him snore", x.heard(2, 0, 3), 1);
    }

    private static void agrees() {
        Edge.says("9 agrees (in a minute c: of CREED 1, neither UPRIGHT nor NODDING)");
        for (char sign : "whoncs~".toCharArray()) {
            NodTax x = new NodTax();
            x.hearer(0, 0, 20, 5, 1, false);
            x.hearer(1, 2, 20, 5, 0, false);
            x.hearer(2, 4, 20, 5, 1, true);
            x.hearer(3, 6, 0, 0, 1, false);
            x.say(sign);
            Edge.due("CREED 1 in " + sign, x.heard(0, 0, 2), sign == 'c' ? 1 : 0);
            Edge.due("CREED 0 in " + sign, x.heard(1, 0, 2), 0);
            Edge.due("UPRIGHT in " + sign, x.heard(2, 0, 2), 0);
            Edge.due("NODDING in " + sign, x.heard(3, 0, 2), 0);
            Edge.due("DIPS in " + sign, x.sum(0, 1), sign == 'c' ? 2 : 1);
        }
        NodTax one = new NodTax();
        one.hearer(0, 0, 1, 0, 1, false);
        one.say('c');
        Edge.due("1 awake", one.heard(0, 0, 2), 1);
    }

    private static void countedFromHisRow() {
        Edge.says("9 all in ROWS from his on (0 to 2)");
        NodTax x = new NodTax();
        x.church(3);
        int[] seats = {0, 3, 4, 7, 8, 11};
        for (int h = 0; h < seats.length; h++) {
            x.hearer(h, seats[h], 0, 0, 0, false);
        }
        Check.text(x, "c");
        for (int row = 0; row < 3; row++) {
            x.set(2, row);
            Edge.due("TAX from ROW " + row, x.sum(0, 2), 6 - 2 * row);
            Edge.due("DIPS all the same", x.sum(0, 1), 6);
        }
        x.church(1);
        x.hearer(0, 3, 0, 0, 0, false);
        x.set(2, 1);
        Edge.due("nobody is behind the only ROW", x.sum(0, 2), 0);
    }

    private static void countedPence() {
        Edge.says("9 costs TAX (0 to 9 pence) for each of its DIPS");
        NodTax x = new NodTax();
        x.hearer(0, 0, 0, 0, 0, false);
        x.hearer(1, 2, 20, 0, 1, false);
        Check.text(x, "cc");
        int[] pence = {0, 1, 9};
        for (int p : pence) {
            x.set(1, p);
            Edge.due("at " + p, x.sum(-1, 2), 4 * p);
        }
    }

    private static void offerings() {
        Edge.says("9 OFFERINGS: who does not NOD: 1 in a minute h, 2 in a minute o");
        for (char sign : "whoncs~".toCharArray()) {
            NodTax x = new NodTax();
            x.hearer(0, 0, 20, 0, 0, false);
            x.hearer(1, 1, 0, 0, 0, false);
            x.hearer(2, 4, 0, 0, 0, true);
            x.say(sign);
            Edge.due("an awake and an UPRIGHT one in " + sign, x.sum(0, 3), sign == 'h' ? 2 : sign == 'o' ? 4 : 0);
        }
        // elbowed in this minute, he has nodded in it
        NodTax y = new NodTax();
        y.hearer(0, 0, 9, 0, 0, false);
        y.hearer(1, 1, 4, 5, 0, false);
        Check.text(y, "o");
        Edge.due("not the one who is elbowed", y.sum(0, 3), 2);
    }

    // ---- promise 9

    private static void heardUnknown() {
        Edge.says("9 UNKNOWN");
        Edge.alwaysRefusedBeyond("heard", 0, 7, NodTax.UNKNOWN, (x, v) -> x.heard(v, 0, 0));
        for (int h : new int[] {2, 3, 4, 6, 7}) {
            Edge.refused(Edge.SOME, "heard(" + h + ")", NodTax.UNKNOWN, x -> x.heard(h, 0, 0));
        }
        Edge.refused(Edge.MOST, "heard(32)", NodTax.UNKNOWN, x -> x.heard(32, 0, 0));
    }

    private static void heardWhat() {
        Edge.says("9 OUTSIDE: what");
        Edge.asked(Edge.SOME, "what 0", 0, x -> x.heard(0, 0, 0));
        Edge.asked(Edge.SOME, "what 3", 0, x -> x.heard(0, 0, 3));
        Edge.refusedBeyond(Edge.SOME, "what", 0, 3, NodTax.OUTSIDE, (x, v) -> x.heard(0, 0, v));
        Edge.refusedBeyond(Edge.MOST, "what", 0, 3, NodTax.OUTSIDE, (x, v) -> x.heard(0, 0, v));
    }

    private static void heardMinute() {
        Edge.says("9 OUTSIDE: there is no such minute");
        Edge.asked(Edge.SOME, "minute 0 of 3", 1, x -> x.heard(0, 0, 1));
        Edge.asked(Edge.SOME, "minute 2 of 3", 9, x -> x.heard(5, 2, 0));
        Edge.refusedBeyond(Edge.SOME, "minute", 0, 2, NodTax.OUTSIDE, (x, v) -> x.heard(0, v, 0));
        Edge.asked(WAKEFUL.and(Edge.text("h".repeat(60))), "minute 59 of 60", 20, x -> x.heard(7, 59, 0));
        Edge.refusedBeyond(Edge.MOST, "minute of 60", 0, 59, NodTax.OUTSIDE, (x, v) -> x.heard(0, v, 0));
        Edge.Making empty = Edge.SOME.and(x -> x.wipe());
        for (int what = 0; what < 4; what++) {
            int w = what;
            Edge.refused(empty, "minute 0 of none", NodTax.OUTSIDE, x -> x.heard(0, 0, w));
            Edge.refused(empty, "minute -1 of none", NodTax.OUTSIDE, x -> x.heard(0, -1, w));
        }
    }

    private static void heardFirstRefusal() {
        Edge.says("9 UNKNOWN; OUTSIDE: what; NO (ahead of m); OUTSIDE, the first of these");
        Edge.refused(FAULTY, "all four", NodTax.UNKNOWN, x -> x.heard(2, 3, 4));
        Edge.refused(Edge.SOME, "nobody, what", NodTax.UNKNOWN, x -> x.heard(2, 0, 4));
        Edge.refused(FAULTY, "nobody, a fault", NodTax.UNKNOWN, x -> x.heard(2, 0, 0));
        Edge.refused(Edge.SOME, "nobody, no minute", NodTax.UNKNOWN, x -> x.heard(2, 3, 0));
        Edge.refused(FAULTY, "what, a fault", NodTax.OUTSIDE, x -> x.heard(0, 0, 4));
        Edge.refused(Edge.SOME, "what, no minute", NodTax.OUTSIDE, x -> x.heard(0, 3, -1));
        Edge.refused(FAULTY, "a fault, no minute", NodTax.NO, x -> x.heard(0, 3, 0));
        Edge.refused(FAULTY, "a fault, minute -1", NodTax.NO, x -> x.heard(0, -1, 0));
        Edge.refused(FAULTY, "a fault, its minute", NodTax.NO, x -> x.heard(0, 2, 0));
        Edge.refused(FAULTY, "a fault, a minute ahead of it", NodTax.NO, x -> x.heard(0, 0, 0));
        Edge.refused(FAULTY_FULL, "a fault in minute 59", NodTax.NO, x -> x.heard(0, 60, 0));
    }

    // ---- promise 10

    private static void sumMinute() {
        Edge.says("10 up to minute m (of sums -1: all)");
        Edge.Making two = SLEEPERS.and(Edge.text("hh"));
        Edge.asked(two, "minute 0", 8, x -> x.sum(0, 0));
        Edge.asked(two, "minute 1", 16, x -> x.sum(1, 0));
        Edge.asked(two, "all", 16, x -> x.sum(-1, 0));
        Edge.refusedBeyond(two, "minute", -1, 1, NodTax.OUTSIDE, (x, v) -> x.sum(v, 0));
        Edge.refusedBeyond(Edge.MOST, "minute of 60", -1, 59, NodTax.OUTSIDE, (x, v) -> x.sum(v, 0));
        for (int what = 0; what < 5; what++) {
            int w = what;
            Edge.asked(SLEEPERS, "all of none", 0, x -> x.sum(-1, w));
            Edge.refused(SLEEPERS, "minute 0 of none", NodTax.OUTSIDE, x -> x.sum(0, w));
        }
    }

    private static void sumWhat() {
        Edge.says("10 OUTSIDE: what");
        Edge.alwaysRefusedBeyond("what", 0, 4, NodTax.OUTSIDE, (x, v) -> x.sum(-1, v));
        Edge.refusedBeyond(Edge.SOME, "what", 0, 4, NodTax.OUTSIDE, (x, v) -> x.sum(0, v));
    }

    private static void sums(Edge.Making making, int m, int... due) {
        for (int what = 0; what < due.length; what++) {
            int w = what;
            Edge.asked(making, "sum(" + m + ", " + w + ")", due[w], x -> x.sum(m, w));
        }
    }

    private static void sumMost() {
        Edge.says("10 Of all: sixty minutes of eight heads");
        Edge.Making asleep = SLEEPERS.and(Edge.text("h".repeat(60)));
        sums(asleep, 0, 8, 8, 72, 0, 4);
        sums(asleep, 58, 472, 472, 4248, 0, 236);
        sums(asleep, 59, 480, 480, 4320, 0, 240);
        sums(asleep, -1, 480, 480, 4320, 0, 240);
        sums(WAKEFUL.and(Edge.text("o".repeat(60))), -1, 0, 0, 0, 960, 0);
        sums(WAKEFUL.and(Edge.text("c".repeat(60))), -1, 0, 480, 4320, 0, 0);
    }

    private static void sumFirstRefusal() {
        Edge.says("10 OUTSIDE: what; NO; OUTSIDE, the first of these");
        Edge.refused(FAULTY, "what, a fault", NodTax.OUTSIDE, x -> x.sum(0, 5));
        Edge.refused(FAULTY, "what, a fault, no minute", NodTax.OUTSIDE, x -> x.sum(3, -1));
        Edge.refused(FAULTY, "a fault, no minute", NodTax.NO, x -> x.sum(3, 0));
        Edge.refused(FAULTY, "a fault, minute -2", NodTax.NO, x -> x.sum(-2, 0));
        Edge.refused(FAULTY, "a fault, all", NodTax.NO, x -> x.sum(-1, 0));
        Edge.refused(FAULTY, "a fault, a minute ahead of it", NodTax.NO, x -> x.sum(0, 0));
        Edge.refused(FAULTY_FULL, "a fault in minute 59", NodTax.NO, x -> x.sum(0, 0));
    }

    // ---- promise 11

    private static void firstMinute() {
        Edge.says("11 FIRST: the first minute");
        Edge.asked(SLEEPERS.and(Edge.text("h")), "NODS in minute 0", 0, x -> x.first(0));
        Edge.asked(SLEEPERS.and(Edge.text("h")), "SNORES in minute 0", 0, x -> x.first(1));
        Edge.Making late = WAKEFUL.and(Edge.text("c".repeat(50) + "w".repeat(10)));
        Edge.asked(late, "NODS in minute 59", 59, x -> x.first(0));
        Edge.asked(late, "SNORES in minute 59", 59, x -> x.first(1));
        Edge.Making later = x -> {
            x.hearer(0, 0, 2, 0, 0, false);
            x.hearer(1, 1, 4, 0, 0, false);
            x.hearer(2, 2, 0, 0, 0, false);
            Check.text(x, "wwh");
        };
        // 2 is asleep, 0 goes at the first w and is elbowed by 1, all three NOD at the second
        Edge.asked(later, "NODS ahead", 0, x -> x.first(0));
        Edge.asked(later, "of the first snore", 1, x -> x.first(1));
    }

    private static void firstNone() {
        Edge.says("11 NONE");
        Edge.asked(SLEEPERS, "no minute", NodTax.NONE, x -> x.first(0));
        Edge.asked(SLEEPERS, "no minute to snore", NodTax.NONE, x -> x.first(1));
        Edge.asked(Edge.text("w".repeat(60)), "nobody there", NodTax.NONE, x -> x.first(0));
        Edge.asked(WAKEFUL.and(Edge.text("c".repeat(60))), "all agree", NodTax.NONE, x -> x.first(0));
        Edge.Making alone = x -> x.hearer(0, 0, 0, 0, 0, false);
        Edge.asked(alone.and(Edge.text("w".repeat(60))), "alone, no snore", NodTax.NONE, x -> x.first(1));
    }

    private static void firstRefusals() {
        Edge.says("11 OUTSIDE; NO, the first of these");
        Edge.alwaysRefusedBeyond("what", 0, 1, NodTax.OUTSIDE, (x, v) -> x.first(v));
        Edge.refusedBeyond(FAULTY, "what, a fault", 0, 1, NodTax.OUTSIDE, (x, v) -> x.first(v));
        Edge.refused(FAULTY, "a fault", NodTax.NO, x -> x.first(0));
        Edge.refused(FAULTY, "a fault", NodTax.NO, x -> x.first(1));
        // somebody NODS in minute 0 already
        Edge.refused(SLEEPERS.and(Edge.text("h".repeat(59) + "x")), "a fault in minute 59", NodTax.NO, x -> x.first(0));
    }

    // ---- promise 12

    private static void gainEnds() {
        Edge.says("12 GAIN, and 10000");
        Edge.asked(SLEEPERS, "of the empty PAD", 10000, x -> x.gain());
        Edge.asked(Edge.text("o".repeat(60)), "of the empty church", 10000, x -> x.gain());
        Edge.asked(SLEEPERS.and(Edge.text("o".repeat(60))), "the least", 5680, x -> x.gain());
        Edge.asked(WAKEFUL.and(Edge.text("o".repeat(60))), "the most", 10960, x -> x.gain());
    }

    private static void gainNo() {
        Edge.says("12 NO");
        Edge.refused(FAULTY, "a fault", NodTax.NO, x -> x.gain());
        Edge.refused(Edge.text("x"), "in the empty church", NodTax.NO, x -> x.gain());
        Edge.refused(FAULTY_FULL, "a fault in minute 59", NodTax.NO, x -> x.gain());
    }
}
