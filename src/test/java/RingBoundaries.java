/** The boundary cases of the Terms' resonances, gaps, frames and claims. */
final class RingBoundaries {
    private static final int NONE = RingHerd.NONE;

    private RingBoundaries() {
    }

    static void all() {
        test("A lane is in resonance p to q with a moon, p and q from 1 to 9", RingBoundaries::oneToNine);
        test("and unlike", RingBoundaries::unlike);
        test("if p times the speed of the moon's lane, and q times the speed of the lane, differ by at most 20",
            RingBoundaries::atMostTwenty);
        test("Of several that with the least difference of p and q counts", RingBoundaries::leastDifference);
        test("then the one with the least p, then the least q", RingBoundaries::leastP);
        test("A gap is two or more lanes without grains, one behind the other", RingBoundaries::twoLanes);
        test("as many as there are", RingBoundaries::asManyAsThereAre);
        test("with lanes with grains right ahead and right behind", RingBoundaries::grainsAheadAndBehind);
        test("Gaps are numbered from 0, from the inside.", RingBoundaries::fromTheInside);
        test("A gap is kept by the lowest moon whose lane is in it", RingBoundaries::moonInIt);
        test("otherwise by the lowest moon with a resonance", RingBoundaries::moonWithResonance);
        test("whose p and q differ by at most 2", RingBoundaries::differByTwo);
        test("with the lane with grains right ahead of it, or right behind it", RingBoundaries::aheadOrBehind);
        test("otherwise by none", RingBoundaries::keptByNone);
        test("A frame keeps the mass of each lane, and the tick.", RingBoundaries::frameKeeps);
        test("Frames are numbered from 0, at most 20.", RingBoundaries::twentyFrames);
        test("A claim is that in a frame none of some lanes has more than some mass", RingBoundaries::notMore);
        test("it holds or not", RingBoundaries::holdsOrNot);
        test("Claims are numbered from 0, at most 40.", RingBoundaries::fortyClaims);
    }

    private static void test(String words, Runnable test) {
        Sentence.test("Terms", words, test);
    }

    private static int resonance(int moonLane, int lane) {
        RingHerd herd = new RingHerd();
        herd.moon(moonLane, 0, 1);
        return herd.resonance(0, lane);
    }

    private static void oneToNine() {
        Check.due("1714 and 1333", resonance(1, 7), 79);
        Check.due("1333 and 1714", resonance(7, 1), 97);
        Check.due("1000 and 1125", resonance(16, 12), 98);
        Check.due("1800 and 900", resonance(0, 20), 12);
        Check.due("900 and 1800", resonance(20, 0), 21);
        Check.due("1333 and 1200: 9 to 10", resonance(7, 10), NONE);
        Check.due("1200 and 1333: 10 to 9", resonance(10, 7), NONE);
        Check.due("1714 and 514: 3 to 10", resonance(1, 50), NONE);
        Check.due("1200 and 1714: 10 to 7", resonance(10, 1), NONE);
    }

    private static void unlike() {
        for (int lane = 0; lane < 64; lane++) {
            Check.due("the moon's own lane " + lane, resonance(lane, lane), NONE);
        }
        Check.due("439 and 433", resonance(62, 63), NONE);
        Check.due("433 and 439", resonance(63, 62), NONE);
    }

    private static void atMostTwenty() {
        Check.due("1200 and 2 times 590", resonance(10, 41), 12);
        Check.due("1200 and 2 times 610", resonance(10, 39), 12);
        Check.due("2 times 590 and 1200", resonance(41, 10), 21);
        Check.due("2 times 610 and 1200", resonance(39, 10), 21);
        Check.due("2 times 1090 and 3 times 720", resonance(13, 30), 23);
        Check.due("1241 and 2 times 631", resonance(9, 37), NONE);
        Check.due("1241 and 2 times 610", resonance(9, 39), NONE);
        Check.due("3 times 947 and 4 times 705", resonance(18, 31), NONE);
        Check.due("4 times 705 and 3 times 947", resonance(31, 18), NONE);
    }

    private static void leastDifference() {
        Check.due("12, 24, 36 or 48", resonance(0, 20), 12);
        Check.due("21, 42, 63 or 84", resonance(20, 0), 21);
        Check.due("23, 46 or 69", resonance(0, 10), 23);
        Check.due("32, 64 or 96", resonance(10, 0), 32);
        Check.due("13, 26 or 39", resonance(0, 40), 13);
    }

    /**
     * Two ratios with one difference never fit the same speeds: these would be at most 40 apart then, and so the
     * lesser one at most 8 * 40 + 20, but the least of all is 433. So pairs of lanes are held against the rule.
     */
    private static void leastP() {
        for (int moonLane = 0; moonLane < 64; moonLane++) {
            RingHerd herd = new RingHerd();
            herd.moon(moonLane, 0, 1);
            herd.flatness(moonLane * 15);
            for (int lane = 0; lane < 64; lane++) {
                int due = first(herd.speed(moonLane), herd.speed(lane));
                Check.due("moon in " + moonLane + ", lane " + lane, herd.resonance(0, lane), due);
            }
        }
    }

    private static int first(int moonSpeed, int speed) {
        for (int difference = 1; difference <= 8; difference++) {
            for (int p = 1; p <= 9; p++) {
                for (int q = 1; q <= 9; q++) {
                    if (Math.abs(p - q) == difference && Math.abs(p * moonSpeed - q * speed) <= 20) {
                        return 10 * p + q;
                    }
                }
            }
        }
        return NONE;
    }

    private static RingHerd grainsIn(int... lanes) {
        RingHerd herd = new RingHerd();
        for (int lane : lanes) {
            herd.grain(lane, 500 * lane, 1, 0);
        }
        return herd;
    }

    private static void spans(RingHerd herd, int... firstsAndLasts) {
        Check.due("gaps()", herd.gaps(), firstsAndLasts.length / 2);
        for (int i = 0; i < herd.gaps() && 2 * i < firstsAndLasts.length; i++) {
            Check.due("first lane of gap " + i, herd.gap(i, 0), firstsAndLasts[2 * i]);
            Check.due("last lane of gap " + i, herd.gap(i, 1), firstsAndLasts[2 * i + 1]);
        }
    }

    private static void twoLanes() {
        spans(grainsIn(30, 31));
        spans(grainsIn(30, 32));
        spans(grainsIn(30, 33), 31, 32);
        spans(grainsIn(30, 34), 31, 33);
        spans(grainsIn(0, 63), 1, 62);
        spans(grainsIn(30, 32, 34));
    }

    private static void asManyAsThereAre() {
        spans(grainsIn(30, 40), 31, 39);
        spans(grainsIn(30, 40, 41, 50), 31, 39, 42, 49);
        RingHerd herd = grainsIn(30, 40);
        herd.grain(35, 0, 1, 0);
        spans(herd, 31, 34, 36, 39);
    }

    private static void grainsAheadAndBehind() {
        spans(new RingHerd());
        spans(grainsIn(0));
        spans(grainsIn(30));
        spans(grainsIn(63));
        spans(grainsIn(3, 60), 4, 59);
        spans(grainsIn(0, 3), 1, 2);
        spans(grainsIn(60, 63), 61, 62);
        RingHerd moons = grainsIn(30);
        moons.moon(20, 0, 1);
        moons.moon(40, 0, 1);
        spans(moons);
        RingHerd gone = new RingHerd();
        gone.grain(0, 0, 5, 0);
        gone.grain(40, 0, 5, 0);
        gone.moon(1, 0, 400);
        spans(gone, 1, 39);
        gone.tick(1);
        spans(gone);
    }

    private static void fromTheInside() {
        RingHerd herd = grainsIn(60, 20, 40, 10);
        spans(herd, 11, 19, 21, 39, 41, 59);
        herd.grain(0, 0, 1, 0);
        spans(herd, 1, 9, 11, 19, 21, 39, 41, 59);
        int[] lanes = new int[22];
        int[] all = new int[42];
        for (int i = 0; i < 22; i++) {
            lanes[i] = 63 - 3 * i;
        }
        for (int i = 0; i < 21; i++) {
            all[2 * i] = 3 * i + 1;
            all[2 * i + 1] = 3 * i + 2;
        }
        spans(grainsIn(lanes), all);
    }

    /** Who keeps the gap of the lanes 51 to 54, with moons in these lanes; none has a resonance there. */
    private static int keeper(int... moonLanes) {
        RingHerd herd = grainsIn(50, 55);
        for (int lane : moonLanes) {
            herd.moon(lane, 0, 1);
        }
        return herd.gap(0, 2);
    }

    private static void moonInIt() {
        Check.due("in its first lane", keeper(51), 0);
        Check.due("in its last lane", keeper(54), 0);
        Check.due("right ahead of it", keeper(50), NONE);
        Check.due("right behind it", keeper(55), NONE);
        Check.due("the lower of two in it", keeper(54, 51), 0);
        Check.due("the second one, in it", keeper(50, 54), 1);
        Check.due("the last of six", keeper(50, 55, 50, 55, 50, 51), 5);
        RingHerd herd = grainsIn(10, 15);
        herd.moon(40, 0, 1);
        herd.moon(14, 0, 1);
        Check.due("ahead of one with a resonance", herd.gap(0, 2), 1);
    }

    private static void moonWithResonance() {
        RingHerd herd = grainsIn(10, 20);
        herd.moon(60, 5, 1);
        Check.due("450 by 900", herd.gap(0, 2), 0);
        herd.moon(40, 0, 1);
        Check.due("the lower of two", herd.gap(0, 2), 0);
        RingHerd last = grainsIn(50, 55);
        for (int i = 0; i < 5; i++) {
            last.moon(56, 0, 1);
        }
        Check.due("none of five", last.gap(0, 2), NONE);
        last.moon(15, 0, 1);
        // 1028 and 514 of lane 50.
        Check.due("the last of six", last.gap(0, 2), 5);
    }

    private static void differByTwo() {
        RingHerd two = grainsIn(40, 43);
        two.moon(0, 0, 1);
        Check.due("1 to 3", two.resonance(0, 40), 13);
        Check.due("a difference of 2", two.gap(0, 2), 0);
        RingHerd three = grainsIn(30, 33);
        three.moon(0, 0, 1);
        Check.due("2 to 5", three.resonance(0, 30), 25);
        Check.due("none by lane 33", three.resonance(0, 33), NONE);
        Check.due("a difference of 3", three.gap(0, 2), NONE);
        RingHerd turned = grainsIn(0, 3);
        turned.moon(30, 0, 1);
        Check.due("5 to 2", turned.resonance(0, 0), 52);
        Check.due("none by lane 3", turned.resonance(0, 3), NONE);
        Check.due("a difference of 3, turned", turned.gap(0, 2), NONE);
    }

    private static void aheadOrBehind() {
        RingHerd ahead = grainsIn(20, 23);
        ahead.moon(0, 0, 1);
        Check.due("12 with the lane ahead", ahead.resonance(0, 20), 12);
        Check.due("none with the lane behind", ahead.resonance(0, 23), NONE);
        Check.due("kept from ahead", ahead.gap(0, 2), 0);
        RingHerd behind = grainsIn(17, 20);
        behind.moon(0, 0, 1);
        Check.due("none with the lane ahead", behind.resonance(0, 17), NONE);
        Check.due("kept from behind", behind.gap(0, 2), 0);
        RingHerd within = grainsIn(18, 23);
        within.moon(0, 0, 1);
        Check.due("12 with a lane in the gap", within.resonance(0, 20), 12);
        Check.due("not kept from within", within.gap(0, 2), NONE);
    }

    private static void keptByNone() {
        Check.due("without moons", keeper(), NONE);
        Check.due("by six others", keeper(50, 55, 56, 49, 57, 48), NONE);
    }

    private static void frameKeeps() {
        RingHerd herd = new RingHerd();
        herd.grain(0, 0, 5, 0);
        herd.grain(63, 0, 6, 0);
        herd.moon(0, 9000, 1);
        herd.frame();
        herd.moon(63, 0, 1);
        herd.moon(1, 0, 400);
        herd.tick(1);
        Check.due("both are gone", herd.sum(0), 0);
        Check.due("lane 0 of the frame", herd.framed(0, 0), 5);
        Check.due("lane 1 of the frame", herd.framed(0, 1), 0);
        Check.due("lane 63 of the frame", herd.framed(0, 63), 6);
        herd.frame();
        Check.due("lane 0 of the next one", herd.framed(1, 0), 0);
        Check.due("lane 63 of the next one", herd.framed(1, 63), 0);
        herd.claim(0, 0, 63, 0);
        herd.claim(1, 0, 63, 0);
        Check.due("the first one's tick is ahead of the second one's", herd.disputes(0), 1);
        Check.due("the second one's tick is behind the first one's", herd.disputes(1), 0);
        RingHerd empty = new RingHerd();
        empty.frame();
        for (int lane = 0; lane < 64; lane++) {
            Check.due("no mass in lane " + lane, empty.framed(0, lane), 0);
        }
        RingHerd heavy = new RingHerd();
        for (int i = 0; i < 80; i++) {
            heavy.grain(63, 0, 10000, 0);
        }
        heavy.frame();
        Check.due("as heavy as can be", heavy.framed(0, 63), 800000);
    }

    private static void twentyFrames() {
        RingHerd herd = new RingHerd();
        Check.throwsJust(Sentence.NUMBER, "framed(0, 0) of none", () -> herd.framed(0, 0));
        for (int i = 0; i < 20; i++) {
            Check.due("frame()", herd.frame(), i);
            herd.grain(10, 450 * i, 1, 0);
        }
        Check.throwsJust(Sentence.STATE, "the 21st", herd::frame);
        Check.due("in the first", herd.framed(0, 10), 0);
        Check.due("in the last", herd.framed(19, 10), 19);
        Check.throwsJust(Sentence.NUMBER, "framed(20, 0)", () -> herd.framed(20, 0));
    }

    private static void notMore() {
        RingHerd herd = new RingHerd();
        herd.grain(0, 0, 3, 0);
        herd.grain(30, 0, 7, 0);
        herd.grain(32, 0, 7, 0);
        herd.grain(63, 0, 5, 0);
        herd.frame();
        int[][] claims = {{30, 30, 7, 1}, {30, 30, 6, 0}, {30, 32, 7, 1}, {29, 29, 0, 1}, {29, 30, 6, 0},
            {31, 31, 0, 1}, {31, 32, 6, 0}, {33, 62, 0, 1}, {33, 63, 4, 0}, {33, 63, 5, 1}, {0, 0, 2, 0},
            {0, 0, 3, 1}, {63, 63, 4, 0}, {63, 63, 5, 1}, {0, 63, 6, 0}, {0, 63, 7, 1}, {0, 63, 0, 0},
            {0, 63, 1000000, 1}};
        for (int i = 0; i < claims.length; i++) {
            herd.claim(0, claims[i][0], claims[i][1], claims[i][2]);
            String claim = "lanes " + claims[i][0] + " to " + claims[i][1] + ", at most " + claims[i][2];
            Check.due(claim, herd.holds(i, NONE), claims[i][3] == 1);
        }
    }

    private static void holdsOrNot() {
        RingHerd herd = new RingHerd();
        herd.frame();
        Check.due("a claim that does not hold is made", claimOfLane30(herd), 1);
        Check.due("it does not hold", herd.holds(1, NONE), false);
        Check.due("of nothing", herd.claim(0, 0, 63, 0), 2);
        Check.due("it holds", herd.holds(2, NONE), true);
    }

    private static int claimOfLane30(RingHerd herd) {
        herd.claim(0, 30, 30, 0);
        herd.grain(30, 0, 1, 0);
        herd.frame();
        return herd.claim(1, 30, 30, 0);
    }

    private static void fortyClaims() {
        RingHerd herd = new RingHerd();
        herd.frame();
        Check.throwsJust(Sentence.NUMBER, "disputes(0) of none", () -> herd.disputes(0));
        for (int i = 0; i < 40; i++) {
            Check.due("claim", herd.claim(0, i, i, i), i);
        }
        Check.throwsJust(Sentence.STATE, "the 41st", () -> herd.claim(0, 0, 0, 0));
        Check.due("disputes(39)", herd.disputes(39), 0);
        Check.throwsJust(Sentence.NUMBER, "disputes(40)", () -> herd.disputes(40));
    }
}
