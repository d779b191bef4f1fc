/** Promises 18 to 20: resonance, gap, gaps. */
public final class ResonanceGapTest {
    private static final int NONE = RingHerd.NONE;
    private static final int[] FAR = {Integer.MIN_VALUE, Integer.MAX_VALUE};

    public static void main(String[] args) {
        promise18Resonance();
        promise18Slack();
        promise18Choice();
        promise18Wrong();
        promise19And20Gaps();
        promise19And20Ends();
        promise19And20Most();
        promise19And20Follow();
        promise19KeptByAMoonInIt();
        promise19KeptByResonance();
        promise19Wrong();
        Check.end("ResonanceGapTest");
    }

    private static void promise18Resonance() {
        RingHerd herd = new RingHerd();
        herd.moon(0, 0, 1);
        herd.moon(20, 0, 1);
        Check.due("1800 and 900", herd.resonance(0, 20), 12);
        Check.due("900 and 1800", herd.resonance(1, 0), 21);
        Check.due("1800 and 1200", herd.resonance(0, 10), 23);
        Check.due("900 and 1200", herd.resonance(1, 10), 43);
        Check.due("1800 and 600", herd.resonance(0, 40), 13);
        Check.due("900 and 600", herd.resonance(1, 40), 23);
        Check.due("1800 and 1800", herd.resonance(0, 0), NONE);
        Check.due("900 and 900", herd.resonance(1, 20), NONE);
        Check.due("1800 and 720", herd.resonance(0, 30), 25);
        herd.flatness(1000);
        // 2050 and 962 then: 1 to 2 is 126 away, 7 to 15 is out of the range, 8 * 2050 = 16400, 9 * 962 = 8658.
        Check.due("2050 and 962", herd.resonance(0, 20), NONE);
    }

    /** All pairs of lanes: the answer has the least difference of p and q, then the least p, then the least q. */
    private static void promise18Choice() {
        int found = 0;
        for (int moonLane = 0; moonLane < 64; moonLane++) {
            RingHerd herd = new RingHerd();
            herd.moon(moonLane, 0, 1);
            for (int flatness = 0; flatness <= 1000; flatness += 250) {
                herd.flatness(flatness);
                for (int lane = 0; lane < 64; lane++) {
                    int due = chosen(herd.speed(moonLane), herd.speed(lane));
                    Check.due("moon in " + moonLane + ", lane " + lane, herd.resonance(0, lane), due);
                    found += due == NONE ? 0 : 1;
                }
            }
        }
        Check.due("there are resonances among them", found > 1000, true);
        Check.due("p 7 and q 8 ahead of 8 and 9", chosen(8, 7), 12);
    }

    private static int chosen(int moonSpeed, int laneSpeed) {
        int best = NONE;
        int rank = Integer.MAX_VALUE;
        for (int p = 1; p <= 9; p++) {
            for (int q = 1; q <= 9; q++) {
                int ranked = Math.abs(p - q) * 100 + p * 10 + q;
                if (p != q && Math.abs(p * moonSpeed - q * laneSpeed) <= 20 && ranked < rank) {
                    best = 10 * p + q;
                    rank = ranked;
                }
            }
        }
        return best;
    }

    private static void promise18Slack() {
        RingHerd herd = new RingHerd();
        herd.moon(1, 0, 1);
        herd.moon(23, 0, 1);
        // Speeds 1714 of lane 1, 837 of lane 23, 857 of lane 22, 867 of lane 21 (41 into 36000 is 878).
        Check.due("speed(21)", herd.speed(21), 878);
        Check.due("1714 and twice 857", herd.resonance(0, 22), 12);
        Check.due("1714 and twice 878 are 42 apart", herd.resonance(0, 21), NONE);
        Check.due("1714 and twice 837 are 40 apart", herd.resonance(0, 23), NONE);
        // The lanes 12 and 43 have the speeds 1125 and 571; 2 * 571 is 1142, 17 apart.
        herd.moon(12, 0, 1);
        Check.due("17 apart", herd.resonance(2, 43), 12);
        // The lanes 4 and 27 have the speeds 1500 and 765; 30 apart; lane 28 has 750.
        herd.moon(4, 0, 1);
        Check.due("30 apart", herd.resonance(3, 27), NONE);
        Check.due("0 apart", herd.resonance(3, 28), 12);
        // 734 of lane 29 and 364 are not there; 36000 / 49 * 2 is 1468, 1440 of lane 5: 28 apart.
        herd.moon(5, 0, 1);
        Check.due("28 apart", herd.resonance(4, 29), NONE);
        Check.due("0 apart, with 720", herd.resonance(4, 30), 12);
    }

    private static void promise18Wrong() {
        RingHerd herd = new RingHerd();
        herd.moon(3, 0, 1);
        for (int moon : new int[] {-1, 1, 6, FAR[0], FAR[1]}) {
            Check.wrongNumber(herd, "resonance(" + moon + ", 0)", () -> herd.resonance(moon, 0));
            Check.wrongNumber(herd, "resonance(" + moon + ", 64)", () -> herd.resonance(moon, 64));
        }
        for (int lane : new int[] {-1, 64, -20, FAR[0], FAR[1]}) {
            Check.wrongArgument(herd, "resonance(0, " + lane + ")", () -> herd.resonance(0, lane));
        }
    }

    private static RingHerd grainsIn(int... lanes) {
        RingHerd herd = new RingHerd();
        for (int lane : lanes) {
            herd.grain(lane, 500 * lane, 1, 0);
        }
        return herd;
    }

    private static void gap(RingHerd herd, int gap, int first, int last, int moon) {
        Check.due("first lane of gap " + gap, herd.gap(gap, 0), first);
        Check.due("last lane of gap " + gap, herd.gap(gap, 1), last);
        Check.due("moon of gap " + gap, herd.gap(gap, 2), moon);
    }

    private static void promise19And20Gaps() {
        RingHerd herd = grainsIn(40, 10, 13, 15, 16, 20);
        Check.due("gaps()", herd.gaps(), 3);
        gap(herd, 0, 11, 12, NONE);
        gap(herd, 1, 17, 19, NONE);
        gap(herd, 2, 21, 39, NONE);
        Check.due("one lane alone is none", grainsIn(10, 12, 14).gaps(), 0);
        Check.due("no lane is none", grainsIn(10, 11, 12).gaps(), 0);
    }

    private static void promise19And20Ends() {
        Check.due("no grain", new RingHerd().gaps(), 0);
        Check.due("one grain", grainsIn(30).gaps(), 0);
        Check.due("one lane with two grains", grainsIn(30, 30).gaps(), 0);
        RingHerd widest = grainsIn(0, 63);
        Check.due("the widest gap", widest.gaps(), 1);
        gap(widest, 0, 1, 62, NONE);
        RingHerd inner = grainsIn(0, 3);
        Check.due("right behind lane 0", inner.gaps(), 1);
        gap(inner, 0, 1, 2, NONE);
        RingHerd outer = grainsIn(60, 63);
        Check.due("right ahead of lane 63", outer.gaps(), 1);
        gap(outer, 0, 61, 62, NONE);
    }

    private static void promise19And20Most() {
        RingHerd herd = new RingHerd();
        for (int lane = 0; lane <= 63; lane += 3) {
            herd.grain(lane, 0, 1, 0);
        }
        Check.due("as many gaps as can be", herd.gaps(), 21);
        for (int i = 0; i < 21; i++) {
            gap(herd, i, 3 * i + 1, 3 * i + 2, NONE);
        }
        Check.wrongNumber(herd, "gap(21, 0)", () -> herd.gap(21, 0));
    }

    /** Gaps are those of now: grains that come and go make and fill them. */
    private static void promise19And20Follow() {
        RingHerd herd = grainsIn(20, 30);
        Check.due("one gap", herd.gaps(), 1);
        herd.grain(25, 0, 1, 0);
        Check.due("two gaps", herd.gaps(), 2);
        gap(herd, 0, 21, 24, NONE);
        gap(herd, 1, 26, 29, NONE);
        herd.grain(63, 0, 1, 0);
        gap(herd, 2, 31, 62, NONE);
        RingHerd lost = new RingHerd();
        lost.grain(60, 0, 1, 0);
        lost.grain(63, 0, 1, 0);
        lost.moon(63, 0, 1);
        gap(lost, 0, 61, 62, NONE);
        lost.tick(1);
        Check.due("escaped", lost.count(6), 1);
        Check.due("no lane with grains behind it", lost.gaps(), 0);
    }

    private static void promise19KeptByAMoonInIt() {
        // The speeds of the lanes 49 to 56 are too much alike for a resonance, which has 8 to 9 at the nearest.
        for (int lane = 49; lane <= 56; lane++) {
            RingHerd herd = grainsIn(50, 55);
            herd.moon(lane, 0, 1);
            Check.due("a moon in lane " + lane, herd.gap(0, 2), lane >= 51 && lane <= 54 ? 0 : NONE);
        }
        RingHerd herd = grainsIn(10, 15);
        herd.moon(40, 0, 1);
        Check.due("600 by 1200 of lane 10", herd.gap(0, 2), 0);
        herd.moon(14, 0, 1);
        Check.due("a moon in it comes ahead of a resonance", herd.gap(0, 2), 1);
        herd.moon(11, 0, 1);
        Check.due("the lowest moon in it", herd.gap(0, 2), 1);
    }

    private static void promise19KeptByResonance() {
        RingHerd ahead = grainsIn(10, 15);
        ahead.moon(63, 0, 1);
        ahead.moon(40, 0, 1);
        ahead.moon(0, 0, 1);
        // 433 of lane 63 by 1200 of lane 10: 3 to 1 is 99 apart; by 1028 of lane 15: 5 to 2 is 109 apart.
        Check.due("with the lane ahead", ahead.gap(0, 2), 1);
        RingHerd behind = grainsIn(9, 20);
        behind.moon(60, 0, 1);
        // 450 of lane 60 by 900 of lane 20; 1241 of lane 9 by 450: 8 to 3 is 123 apart.
        Check.due("no resonance ahead", behind.resonance(0, 9), NONE);
        Check.due("with the lane behind", behind.gap(0, 2), 0);
        RingHerd two = grainsIn(40, 43);
        two.moon(0, 0, 1);
        // 1800 by 600 of lane 40: 1 to 3, a difference of 2.
        Check.due("1 to 3", two.resonance(0, 40), 13);
        Check.due("a difference of 2 keeps", two.gap(0, 2), 0);
        RingHerd three = grainsIn(30, 33);
        three.moon(0, 0, 1);
        // 1800 by 720 of lane 30: 2 to 5, a difference of 3; by 679 of lane 33: 3 to 8, 32 apart.
        Check.due("2 to 5", three.resonance(0, 30), 25);
        Check.due("2 to 5 alone", three.resonance(0, 33), NONE);
        Check.due("a difference of 3 keeps nothing", three.gap(0, 2), NONE);
        RingHerd last = grainsIn(30, 33);
        for (int i = 0; i < 5; i++) {
            last.moon(0, 0, 1);
        }
        last.moon(29, 0, 1);
        // 734 of lane 29 by 720 and 679: too much alike, or 12 to 13.
        Check.due("none of six moons", last.gap(0, 2), NONE);
        RingHerd sixth = grainsIn(30, 33);
        for (int i = 0; i < 5; i++) {
            sixth.moon(0, 0, 1);
        }
        sixth.moon(5, 0, 1);
        Check.due("the last of six moons", sixth.gap(0, 2), 5);
        RingHerd lowest = grainsIn(10, 20);
        lowest.moon(40, 0, 1);
        lowest.moon(0, 0, 1);
        Check.due("the lowest of two", lowest.gap(0, 2), 0);
    }

    private static void promise19Wrong() {
        RingHerd herd = grainsIn(10, 15, 20);
        for (int gap : new int[] {-1, 2, 21, FAR[0], FAR[1]}) {
            Check.wrongNumber(herd, "gap(" + gap + ", 0)", () -> herd.gap(gap, 0));
            Check.wrongNumber(herd, "gap(" + gap + ", 3)", () -> herd.gap(gap, 3));
        }
        for (int what : new int[] {-1, 3, FAR[0], FAR[1]}) {
            Check.wrongArgument(herd, "gap(0, " + what + ")", () -> herd.gap(0, what));
        }
    }
}
