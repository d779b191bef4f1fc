/** The boundary cases of the Terms' "A tick". */
final class TickBoundaries {
    private TickBoundaries() {
    }

    static void all() {
        test("The angles of all grains that are there, and of all moons, grow by the speed of their lane",
            TickBoundaries::thoseThatGoRound);
        test("round behind 35999", TickBoundaries::roundBehindTheLast);
        test("Moon by moon, grain by grain, both by rising numbers", TickBoundaries::moonByMoon);
        test("a grain that is at most the width of the moon away from it by lanes", TickBoundaries::widthAway);
        test("and at most 1000 by angles", TickBoundaries::anglesAway);
        test("goes one lane away from it, out if it is in its lane", TickBoundaries::outOfItsLane);
        test("and its unrest is 5 more, at most 99", TickBoundaries::unrestOfAPush);
        test("What its momentum grows by the moon gave.", TickBoundaries::whatAMoonGave);
        test("Grain by grain, each with each higher one, by rising numbers", TickBoundaries::grainByGrain);
        test("those that are there", TickBoundaries::thoseThatAreThere);
        test("at most one lane and at most 100 by angles apart", TickBoundaries::nearEnough);
        test("and did not meet another one in this tick, meet", TickBoundaries::oneMeetingATick);
        test("Their clash is the unrest of both, and how much the speeds of their lanes differ, together.",
            TickBoundaries::clash);
        test("If it is at most the first bound, they stick", TickBoundaries::firstBound);
        test("the higher one is gone", TickBoundaries::higherOneIsGone);
        test("the lower one has the mass of both", TickBoundaries::massOfBoth);
        test("the lane that is the sum of mass times lane of both, divided by that mass",
            TickBoundaries::laneOfBoth);
        test("the darkness that is the sum of mass times darkness, divided by that mass",
            TickBoundaries::darknessOfBoth);
        test("its own angle, and the lesser unrest", TickBoundaries::lesserUnrest);
        test("Otherwise, if it is above the second bound", TickBoundaries::secondBound);
        test("the lighter one (the higher one, if both are alike)", TickBoundaries::lighterOne);
        test("has a mass of 2 or more", TickBoundaries::tooLightToBreak);
        test("and there were fewer than 80 grains", TickBoundaries::tooManyToBreak);
        test("it keeps half of its mass, rounded down, and goes a lane in", TickBoundaries::halfGoesIn);
        test("a new grain has the rest, its angle and its darkness, and comes a lane further out than it was",
            TickBoundaries::restGoesOut);
        test("both of these, the one that broke and the new one, have no unrest, the other one of the meeting "
            + "stays as it is", TickBoundaries::unrestOfABreak);
        test("Otherwise they bump", TickBoundaries::otherwiseTheyBump);
        test("the one in the lower lane, or in the same lane the one with the lower number, goes a lane in, "
            + "the other one a lane out", TickBoundaries::whoGoesIn);
        test("the unrest of each becomes it times the spring, divided by 100", TickBoundaries::springs);
        test("What all momentum, with that of those that rain or escape by it, is less by that is heat",
            TickBoundaries::heat);
        test("what it is more is taken off the heat, which may be below 0", TickBoundaries::heatBelowZero);
        test("A new grain does not meet another one in this tick.", TickBoundaries::newGrainMeetsNone);
        test("The darkness of all grains that are there is 1 more, at most 1000.", TickBoundaries::darkness);
        test("The first bound is 20 at first, the second one 80, the spring 50.", TickBoundaries::asAtFirst);
    }

    private static void test(String words, Runnable test) {
        Sentence.test("Terms", words, test);
    }

    /** An angle from which a grain or a moon of this lane goes to this other angle in a tick. */
    private static int ahead(int lane, int angle) {
        return (angle + 36000 - 36000 / (lane + 20)) % 36000;
    }

    /** Puts a grain that stands at this angle after the first step of the next tick. */
    private static void put(RingHerd herd, int lane, int angle, int mass, int unrest) {
        herd.grain(lane, ahead(lane, angle), mass, unrest);
    }

    /** Two grains that meet at the angle 5000, a tick later, by these bounds and a spring of 50. */
    private static RingHerd meeting(int first, int second, int lane, int mass, int unrest,
            int otherLane, int otherMass, int otherUnrest) {
        RingHerd herd = new RingHerd();
        herd.bounds(first, second, 50);
        put(herd, lane, 5000, mass, unrest);
        put(herd, otherLane, 5000, otherMass, otherUnrest);
        herd.tick(1);
        return herd;
    }

    private static RingHerd stuck(int lane, int mass, int otherLane, int otherMass) {
        return meeting(1000, 1000, lane, mass, 3, otherLane, otherMass, 4);
    }

    private static RingHerd bumped(int lane, int mass, int otherLane, int otherMass) {
        return meeting(0, 5000, lane, mass, 30, otherLane, otherMass, 41);
    }

    private static RingHerd broken(int lane, int mass, int otherLane, int otherMass) {
        return meeting(0, 0, lane, mass, 30, otherLane, otherMass, 41);
    }

    private static void thoseThatGoRound() {
        RingHerd herd = new RingHerd();
        herd.grain(0, 0, 5, 0);
        herd.grain(63, 0, 5, 0);
        herd.grain(30, 0, 5, 0);
        herd.grain(30, 0, 5, 0);
        herd.moon(0, 9000, 1);
        herd.moon(63, 9000, 1);
        herd.tick(1);
        herd.tick(1);
        Check.due("in the first lane", herd.told(0, 1), 3600);
        Check.due("in the last lane", herd.told(1, 1), 866);
        Check.due("one that another one stuck to", herd.told(2, 1), 1440);
        Check.due("one that is gone", herd.told(3, 1), 720);
        Check.due("a moon in the first lane", herd.angle(0), 12600);
        Check.due("a moon in the last lane", herd.angle(1), 9866);
    }

    private static void roundBehindTheLast() {
        for (int lane : new int[] {0, 30, 63}) {
            int speed = 36000 / (lane + 20);
            int[][] angles = {{35999 - speed, 35999}, {36000 - speed, 0}, {36001 - speed, 1}, {35999, speed - 1}};
            for (int[] row : angles) {
                RingHerd herd = new RingHerd();
                herd.grain(lane, row[0], 5, 0);
                herd.moon(63 - lane, 0, 1);
                herd.moon(lane, row[0], 1);
                herd.tick(1);
                Check.due("a grain from " + row[0] + " in lane " + lane, herd.told(0, 1), row[1]);
                Check.due("a moon from " + row[0] + " in lane " + lane, herd.angle(1), row[1]);
            }
        }
    }

    private static void moonByMoon() {
        RingHerd both = new RingHerd();
        both.moon(30, ahead(30, 500), 400);
        both.moon(32, ahead(32, 500), 1);
        put(both, 31, 500, 5, 0);
        both.tick(1);
        Check.due("out by both", both.told(0, 0), 33);
        RingHerd one = new RingHerd();
        one.moon(32, ahead(32, 500), 1);
        one.moon(30, ahead(30, 500), 400);
        put(one, 31, 500, 5, 0);
        one.tick(1);
        Check.due("out by the second one alone", one.told(0, 0), 32);
        RingHerd gone = new RingHerd();
        gone.moon(1, ahead(1, 500), 10000);
        gone.moon(0, ahead(0, 500), 10000);
        put(gone, 0, 500, 5, 0);
        gone.tick(1);
        Check.due("gone by the first one", gone.told(0, 0), -1);
        Check.due("the second one gave nothing", gone.momentum(4), -5);
        RingHerd none = new RingHerd();
        none.moon(30, 0, 10000);
        Check.due("a moon without grains", none.tick(1), 1);
        Check.due("gave nothing", none.momentum(4), 0);
    }

    /** The lane of a grain, a tick after it was so many lanes away from a moon of lane 30. */
    private static int pushed(int lanesAway, int anglesAway, int moonMass) {
        RingHerd herd = new RingHerd();
        herd.moon(30, ahead(30, 500), moonMass);
        put(herd, 30 + lanesAway, (36500 + anglesAway) % 36000, 5, 0);
        herd.tick(1);
        return herd.told(0, 0);
    }

    private static void widthAway() {
        Check.due("width 0, in its lane", pushed(0, 0, 1), 31);
        Check.due("width 0, one lane out", pushed(1, 0, 1), 31);
        Check.due("width 0, one lane in", pushed(-1, 0, 1), 29);
        Check.due("width 1, one lane out", pushed(1, 0, 400), 32);
        Check.due("width 1, one lane in", pushed(-1, 0, 400), 28);
        Check.due("width 1, two lanes out", pushed(2, 0, 400), 32);
        Check.due("width 1, two lanes in", pushed(-2, 0, 400), 28);
        Check.due("width 5, five lanes out", pushed(5, 0, 10000), 36);
        Check.due("width 5, five lanes in", pushed(-5, 0, 10000), 24);
        Check.due("width 5, six lanes out", pushed(6, 0, 10000), 36);
        Check.due("width 5, six lanes in", pushed(-6, 0, 10000), 24);
    }

    private static void anglesAway() {
        Check.due("1000 ahead", pushed(1, 1000, 400), 32);
        Check.due("1001 ahead", pushed(1, 1001, 400), 31);
        Check.due("1000 behind", pushed(1, -1000, 400), 32);
        Check.due("1001 behind", pushed(1, -1001, 400), 31);
        Check.due("on the other side", pushed(1, 18000, 400), 31);
    }

    private static void outOfItsLane() {
        Check.due("in its lane", pushed(0, 0, 400), 31);
        Check.due("further out", pushed(1, 0, 400), 32);
        Check.due("further in", pushed(-1, 0, 400), 28);
        RingHerd herd = new RingHerd();
        herd.moon(63, 0, 1);
        herd.moon(0, 0, 1);
        herd.grain(63, 0, 5, 0);
        herd.grain(0, 0, 5, 0);
        herd.tick(1);
        Check.due("out of the last lane", herd.told(0, 0), 64);
        Check.due("out of the first lane", herd.told(1, 0), 1);
    }

    private static void unrestOfAPush() {
        int[][] unrests = {{0, 5}, {93, 98}, {94, 99}, {95, 99}, {99, 99}};
        for (int[] row : unrests) {
            RingHerd herd = new RingHerd();
            herd.moon(30, 0, 1);
            herd.grain(30, 0, 5, row[0]);
            herd.tick(1);
            Check.due("an unrest of " + row[0], herd.told(0, 3), row[1]);
        }
    }

    private static void whatAMoonGave() {
        int[][] lanesAndGift = {{30, 30, 7}, {29, 30, -7}, {0, 1, -7}, {63, 62, 7}, {63, 63, 7}};
        for (int[] row : lanesAndGift) {
            RingHerd herd = new RingHerd();
            herd.moon(row[1], 0, 400);
            herd.grain(row[0], 0, 7, 0);
            herd.tick(1);
            Check.due("to lane " + row[0] + " from " + row[1], herd.momentum(4), row[2]);
            Check.due("no heat by it", herd.momentum(5), 0);
        }
    }

    private static void grainByGrain() {
        RingHerd herd = new RingHerd();
        put(herd, 30, 5000, 1, 0);
        put(herd, 30, 5150, 2, 0);
        put(herd, 30, 5060, 4, 0);
        put(herd, 30, 5250, 8, 0);
        herd.tick(1);
        Check.due("0 meets 2, the first near it", herd.told(0, 2), 5);
        Check.due("1 meets 3, as 2 has met", herd.told(1, 2), 10);
        RingHerd three = new RingHerd();
        three.grain(30, 0, 1, 0);
        three.grain(30, 0, 2, 0);
        three.grain(30, 0, 4, 0);
        three.tick(1);
        Check.due("0 meets 1, ahead of 2", three.told(0, 2), 3);
        RingHerd one = new RingHerd();
        one.grain(30, 0, 1, 0);
        one.tick(1);
        Check.counts("one alone meets none", one, 1, 1, 0, 0, 0, 0, 0);
        RingHerd last = new RingHerd();
        for (int i = 0; i < 78; i++) {
            last.grain(0, 450 * i, 1, 0);
        }
        last.grain(30, 0, 3, 0);
        last.grain(30, 0, 4, 0);
        last.tick(1);
        Check.due("the last two of 80 meet", last.told(78, 2), 7);
    }

    /** Beside each grain that is gone stands another one, within a lane and 100 by angles. */
    private static void thoseThatAreThere() {
        RingHerd sticks = stuck(30, 5, 30, 4);
        put(sticks, 30, 5000, 3, 0);
        sticks.tick(1);
        Check.counts("one that stuck meets none", sticks, 3, 2, 1, 0, 0, 0, 0);
        RingHerd rained = bumped(0, 5, 0, 4);
        put(rained, 0, 5000, 3, 20);
        rained.tick(1);
        Check.due("one that rained is one lane away", rained.told(0, 0), -1);
        Check.counts("one that rained meets none", rained, 3, 2, 0, 0, 1, 1, 0);
        RingHerd escaped = bumped(63, 5, 63, 4);
        put(escaped, 63, 5000, 3, 20);
        escaped.tick(1);
        Check.counts("one that escaped meets none", escaped, 3, 2, 0, 0, 1, 0, 1);
        RingHerd pushed = new RingHerd();
        pushed.moon(1, ahead(1, 5000), 400);
        pushed.moon(3, ahead(3, 5000), 400);
        pushed.moon(2, ahead(2, 5000), 400);
        put(pushed, 0, 5000, 5, 0);
        put(pushed, 1, 5000, 5, 0);
        pushed.tick(1);
        Check.due("one rained by a push of this tick", pushed.told(0, 0), -1);
        Check.due("the other one went out, in and in", pushed.told(1, 0), 0);
        Check.counts("one that rained in this tick meets none", pushed, 2, 1, 0, 0, 0, 1, 0);
    }

    /** Whether two grains meet that are so far apart; each of the two may be the higher one. */
    private static void near(int lanesApart, int anglesApart, boolean due) {
        for (int swap = 0; swap < 2; swap++) {
            RingHerd herd = new RingHerd();
            herd.bounds(0, 5000, 50);
            put(herd, 30 + swap * lanesApart, 5000, 5, 30);
            put(herd, 30 + (1 - swap) * lanesApart, 5000 + anglesApart, 5, 30);
            herd.tick(1);
            Check.due(lanesApart + " lanes and " + anglesApart + " apart", herd.count(4), due ? 1 : 0);
        }
    }

    private static void nearEnough() {
        near(0, 0, true);
        near(0, 100, true);
        near(0, -100, true);
        near(0, 101, false);
        near(0, -101, false);
        near(1, 0, true);
        near(1, 100, true);
        near(1, -100, true);
        near(1, 101, false);
        near(2, 0, false);
        near(2, 100, false);
    }

    private static void oneMeetingATick() {
        RingHerd herd = new RingHerd();
        herd.bounds(0, 5000, 50);
        for (int i = 0; i < 3; i++) {
            herd.grain(30, 0, 5, 30);
        }
        herd.tick(1);
        Check.counts("three at one place", herd, 3, 3, 0, 0, 1, 0, 0);
        Check.grain("the third one", herd, 2, 30, 720, 5, 30, 1, 1);
        RingHerd sticks = new RingHerd();
        for (int i = 0; i < 3; i++) {
            sticks.grain(30, 0, 5, 0);
        }
        sticks.tick(1);
        Check.counts("three that would stick", sticks, 3, 2, 1, 0, 0, 0, 0);
        sticks.tick(1);
        Check.counts("the third sticks a tick later", sticks, 3, 1, 2, 0, 0, 0, 0);
    }

    private static void clash() {
        // The lanes 30 and 31 have the speeds 720 and 705.
        for (int swap = 0; swap < 2; swap++) {
            int lane = 30 + swap;
            Check.due("7, 8 and 15 by 30", meeting(30, 90, lane, 5, 7, 61 - lane, 5, 8).count(2), 1);
            Check.due("7, 8 and 15 by 29", meeting(29, 90, lane, 5, 7, 61 - lane, 5, 8).count(2), 0);
            Check.due("0, 0 and 15 by 15", meeting(15, 90, lane, 5, 0, 61 - lane, 5, 0).count(2), 1);
            Check.due("0, 0 and 15 by 14", meeting(14, 90, lane, 5, 0, 61 - lane, 5, 0).count(2), 0);
        }
        Check.due("99 and 99 by 198", meeting(198, 900, 30, 5, 99, 30, 5, 99).count(2), 1);
        Check.due("99 and 99 by 197", meeting(197, 900, 30, 5, 99, 30, 5, 99).count(2), 0);
        Check.due("nothing by 0", meeting(0, 0, 30, 5, 0, 30, 5, 0).count(2), 1);
    }

    private static void firstBound() {
        Check.counts("a clash of 50 by 50", meeting(50, 90, 30, 5, 20, 30, 5, 30), 2, 1, 1, 0, 0, 0, 0);
        Check.counts("a clash of 51 by 50", meeting(50, 90, 30, 5, 20, 30, 5, 31), 2, 2, 0, 0, 1, 0, 0);
        Check.counts("a clash of 0 by 0", meeting(0, 0, 30, 5, 0, 30, 5, 0), 2, 1, 1, 0, 0, 0, 0);
        Check.counts("a clash of 198 by 1000", meeting(1000, 1000, 30, 5, 99, 30, 5, 99), 2, 1, 1, 0, 0, 0, 0);
    }

    private static void higherOneIsGone() {
        RingHerd herd = stuck(30, 5, 30, 4);
        Check.due("the lower one is there", herd.told(0, 5), 1);
        Check.grain("the higher one", herd, 1, 30, 5000, 4, 4, 0, 0);
        RingHerd heavier = stuck(30, 5, 30, 4000);
        Check.due("the lighter, lower one is there", heavier.told(0, 5), 1);
        Check.due("the heavier, higher one is gone", heavier.told(1, 5), 0);
    }

    private static void massOfBoth() {
        Check.due("1 and 1", stuck(30, 1, 30, 1).told(0, 2), 2);
        Check.due("10000 and 10000", stuck(63, 10000, 63, 10000).told(0, 2), 20000);
        RingHerd herd = new RingHerd();
        for (int i = 0; i < 80; i++) {
            herd.grain(63, 0, 10000, 0);
        }
        herd.tick(7);
        Check.due("80 times 10000", herd.told(0, 2), 800000);
    }

    private static void laneOfBoth() {
        Check.due("10 in 30, 10 in 31", stuck(30, 10, 31, 10).told(0, 0), 30);
        Check.due("10 in 31, 10 in 30", stuck(31, 10, 30, 10).told(0, 0), 30);
        Check.due("1 in 30, 10000 in 31", stuck(30, 1, 31, 10000).told(0, 0), 30);
        Check.due("10000 in 31, 1 in 30", stuck(31, 10000, 30, 1).told(0, 0), 30);
        Check.due("both in 31", stuck(31, 1, 31, 2).told(0, 0), 31);
        Check.due("both in 0", stuck(0, 1, 0, 2).told(0, 0), 0);
        Check.due("both in 63", stuck(63, 10000, 63, 10000).told(0, 0), 63);
        Check.due("in 62 and 63", stuck(62, 1, 63, 10000).told(0, 0), 62);
    }

    private static void darknessOfBoth() {
        // The first one has a darkness of 10, or 1000, the second one none; the tick adds 1 at its end.
        Check.due("10 times 10 by 14", darknessOf(10, 10, 4), 7 + 1);
        Check.due("1 times 10 by 11", darknessOf(10, 1, 10), 1);
        Check.due("1 times 10 by 10", darknessOf(10, 1, 9), 1 + 1);
        Check.due("10000 times 1000 by 10001", darknessOf(1000, 10000, 1), 999 + 1);
        Check.due("10000 times 1000 by 20000", darknessOf(1000, 10000, 10000), 500 + 1);
    }

    private static int darknessOf(int ticks, int mass, int otherMass) {
        RingHerd herd = new RingHerd();
        herd.grain(30, 0, mass, 0);
        for (int i = 0; i < ticks; i += 10) {
            herd.tick(10);
        }
        herd.grain(30, herd.told(0, 1), otherMass, 0);
        herd.tick(1);
        return herd.told(0, 4);
    }

    private static void lesserUnrest() {
        Check.due("3 and 4", meeting(1000, 1000, 30, 5, 3, 30, 5, 4).told(0, 3), 3);
        Check.due("4 and 3", meeting(1000, 1000, 30, 5, 4, 30, 5, 3).told(0, 3), 3);
        Check.due("0 and 99", meeting(1000, 1000, 30, 5, 0, 30, 5, 99).told(0, 3), 0);
        Check.due("99 and 99", meeting(1000, 1000, 30, 5, 99, 30, 5, 99).told(0, 3), 99);
        RingHerd round = new RingHerd();
        put(round, 30, 35990, 5, 0);
        put(round, 30, 20, 5, 0);
        round.tick(1);
        Check.due("its own angle, though round", round.told(0, 1), 35990);
    }

    private static void secondBound() {
        Check.counts("a clash of 90 by 90", meeting(20, 90, 30, 5, 40, 30, 5, 50), 2, 2, 0, 0, 1, 0, 0);
        Check.counts("a clash of 91 by 90", meeting(20, 90, 30, 5, 41, 30, 5, 50), 3, 3, 0, 1, 0, 0, 0);
        Check.counts("a clash of 1 by 0", meeting(0, 0, 30, 5, 1, 30, 5, 0), 3, 3, 0, 1, 0, 0, 0);
        Check.counts("a clash of 51 by 50 and 50", meeting(50, 50, 30, 5, 51, 30, 5, 0), 3, 3, 0, 1, 0, 0, 0);
        Check.counts("a clash of 50 by 50 and 50", meeting(50, 50, 30, 5, 50, 30, 5, 0), 2, 1, 1, 0, 0, 0, 0);
        Check.counts("a clash of 198 by 5000", meeting(0, 5000, 30, 5, 99, 30, 5, 99), 2, 2, 0, 0, 1, 0, 0);
    }

    private static void lighterOne() {
        RingHerd alike = broken(30, 6, 30, 6);
        Check.due("the lower one of two alike", alike.told(0, 2), 6);
        Check.due("the higher one of two alike", alike.told(1, 2), 3);
        RingHerd lower = broken(30, 6, 30, 7);
        Check.due("the lower one, lighter by 1", lower.told(0, 2), 3);
        Check.due("the higher one, heavier by 1", lower.told(1, 2), 7);
        RingHerd higher = broken(30, 7, 30, 6);
        Check.due("the lower one, heavier by 1", higher.told(0, 2), 7);
        Check.due("the higher one, lighter by 1", higher.told(1, 2), 3);
    }

    private static void tooLightToBreak() {
        Check.counts("2 by 2", broken(30, 2, 30, 2), 3, 3, 0, 1, 0, 0, 0);
        Check.counts("1 by 1", broken(30, 1, 30, 1), 2, 2, 0, 0, 1, 0, 0);
        Check.counts("1 by 10000", broken(30, 1, 30, 10000), 2, 2, 0, 0, 1, 0, 0);
        Check.counts("10000 by 1", broken(30, 10000, 30, 1), 2, 2, 0, 0, 1, 0, 0);
        Check.counts("2 by 10000", broken(30, 2, 30, 10000), 3, 3, 0, 1, 0, 0, 0);
    }

    private static void tooManyToBreak() {
        for (int grains = 79; grains <= 80; grains++) {
            RingHerd herd = new RingHerd();
            herd.grain(30, 0, 8, 99);
            herd.grain(30, 0, 8, 99);
            for (int i = 2; i < grains; i++) {
                herd.grain(0, 450 * i, 1, 0);
            }
            herd.tick(1);
            Check.due("breaks of " + grains, herd.count(3), 80 - grains);
            Check.due("bumps of " + grains, herd.count(4), grains - 79);
            Check.due("grains ever", herd.count(0), 80);
        }
        RingHerd lastFree = new RingHerd();
        for (int lane = 20; lane <= 40; lane += 20) {
            lastFree.grain(lane, 0, 8, 99);
            lastFree.grain(lane, 0, 8, 99);
        }
        for (int i = 4; i < 79; i++) {
            lastFree.grain(0, 450 * i, 1, 0);
        }
        lastFree.tick(1);
        Check.due("one of two breaks", lastFree.count(3), 1);
        Check.due("the other one bumps", lastFree.count(4), 1);
    }

    private static void halfGoesIn() {
        Check.grain("half of 2", broken(30, 9, 30, 2), 1, 29, 5000, 1, 0, 1, 1);
        Check.grain("half of 3", broken(30, 9, 30, 3), 1, 29, 5000, 1, 0, 1, 1);
        Check.grain("half of 10000", broken(30, 10000, 30, 10000), 1, 29, 5000, 5000, 0, 1, 1);
        RingHerd rained = broken(0, 9, 0, 3);
        Check.grain("half of 3 in lane 0", rained, 1, -1, 5000, 1, 0, 0, 0);
        Check.counts("half of 3 in lane 0", rained, 3, 2, 0, 1, 0, 1, 0);
        Check.due("from lane 1", broken(1, 9, 1, 3).told(1, 0), 0);
    }

    private static void restGoesOut() {
        Check.grain("the rest of 2", broken(30, 9, 30, 2), 2, 31, 5000, 1, 0, 1, 1);
        Check.grain("the rest of 3", broken(30, 9, 30, 3), 2, 31, 5000, 2, 0, 1, 1);
        Check.grain("the rest of 10000", broken(30, 10000, 30, 10000), 2, 31, 5000, 5000, 0, 1, 1);
        RingHerd escaped = broken(63, 9, 63, 3);
        Check.grain("the rest of 3 in lane 63", escaped, 2, 64, 5000, 2, 0, 0, 0);
        Check.counts("the rest of 3 in lane 63", escaped, 3, 2, 0, 1, 0, 0, 1);
        Check.due("from lane 62", broken(62, 9, 62, 3).told(2, 0), 63);
        RingHerd dark = new RingHerd();
        dark.grain(30, 0, 5, 99);
        for (int i = 0; i < 20; i++) {
            dark.tick(50);
        }
        dark.grain(30, dark.told(0, 1), 6, 99);
        dark.tick(1);
        Check.due("as dark as can be", dark.told(2, 4), 1000);
        Check.due("at the same angle", dark.told(2, 1), dark.told(0, 1));
    }

    private static void unrestOfABreak() {
        RingHerd herd = meeting(0, 0, 30, 9, 99, 31, 3, 98);
        Check.due("of the one that broke", herd.told(1, 3), 0);
        Check.due("of the new one", herd.told(2, 3), 0);
        Check.grain("the other one", herd, 0, 30, 5000, 9, 99, 1, 1);
    }

    private static void otherwiseTheyBump() {
        Check.counts("between the bounds", meeting(20, 22, 30, 5, 21, 30, 5, 0), 2, 2, 0, 0, 1, 0, 0);
        Check.counts("at the second bound", meeting(20, 21, 30, 5, 21, 30, 5, 0), 2, 2, 0, 0, 1, 0, 0);
        Check.counts("above it, but too light", meeting(20, 20, 30, 1, 21, 30, 5, 0), 2, 2, 0, 0, 1, 0, 0);
    }

    private static void whoGoesIn() {
        RingHerd same = bumped(30, 5, 30, 50);
        Check.due("in the same lane, the lower number", same.told(0, 0), 29);
        Check.due("in the same lane, the higher number", same.told(1, 0), 31);
        RingHerd up = bumped(30, 5, 31, 50);
        Check.due("the lower number in the lower lane", up.told(0, 0), 29);
        Check.due("the higher number in the higher lane", up.told(1, 0), 32);
        RingHerd down = bumped(31, 5, 30, 50);
        Check.due("the lower number in the higher lane", down.told(0, 0), 32);
        Check.due("the higher number in the lower lane", down.told(1, 0), 29);
        RingHerd first = bumped(0, 5, 0, 50);
        Check.grain("in the first lane", first, 0, -1, 5000, 5, 15, 0, 0);
        Check.counts("in the first lane", first, 2, 1, 0, 0, 1, 1, 0);
        RingHerd last = bumped(63, 5, 63, 50);
        Check.grain("in the last lane", last, 1, 64, 5000, 50, 20, 0, 0);
        Check.counts("in the last lane", last, 2, 1, 0, 0, 1, 0, 1);
    }

    private static void springs() {
        int[][] springAndUnrests = {{0, 0, 0, 0}, {100, 0, 33, 99}, {1, 0, 0, 0}, {99, 0, 32, 98}, {50, 0, 16, 49}};
        for (int[] row : springAndUnrests) {
            int[] unrests = {0, 33, 99};
            for (int i = 0; i < 3; i++) {
                RingHerd herd = new RingHerd();
                herd.bounds(0, 5000, row[0]);
                herd.grain(30, 0, 5, unrests[i]);
                herd.grain(31, 0, 5, 1);
                herd.tick(1);
                Check.due("bumps", herd.count(4), 1);
                Check.due(unrests[i] + " by a spring of " + row[0], herd.told(0, 3), row[1 + i]);
                Check.due("1 by a spring of " + row[0], herd.told(1, 3), row[0] / 100);
            }
        }
    }

    private static void heat() {
        Check.momenta("by sticking", stuck(30, 10, 31, 10), 1000, 0, 0, 1010, 0, 10);
        Check.momenta("by sticking in one lane", stuck(30, 10, 30, 10), 1000, 0, 0, 1000, 0, 0);
        Check.momenta("by bumping", bumped(30, 10, 30, 4), 490 + 204, 0, 0, 700, 0, 6);
        Check.momenta("by a rain", bumped(0, 10, 0, 4), 84, 190, 0, 280, 0, 6);
        Check.momenta("by an escape", bumped(63, 10, 63, 4), 820, 0, 336, 1162, 0, 6);
        Check.momenta("by a break in halves", broken(30, 10, 30, 4), 700, 0, 0, 700, 0, 0);
    }

    private static void heatBelowZero() {
        Check.momenta("by bumping", bumped(30, 4, 30, 10), 196 + 510, 0, 0, 700, 0, -6);
        Check.momenta("by a rain", bumped(0, 4, 0, 10), 210, 76, 0, 280, 0, -6);
        Check.momenta("by an escape", bumped(63, 4, 63, 10), 328, 0, 840, 1162, 0, -6);
        Check.momenta("by a break", broken(30, 10, 30, 3), 500 + 49 + 102, 0, 0, 650, 0, -1);
        Check.momenta("by half that rains", broken(0, 10, 0, 3), 200 + 42, 19, 0, 260, 0, -1);
        Check.momenta("by a rest that escapes", broken(63, 10, 63, 3), 830 + 82, 0, 168, 1079, 0, -1);
    }

    private static void newGrainMeetsNone() {
        RingHerd herd = new RingHerd();
        herd.bounds(0, 0, 50);
        herd.grain(30, 0, 20, 9);
        herd.grain(30, 0, 10, 9);
        herd.grain(32, 0, 10, 9);
        herd.tick(1);
        Check.counts("a new one beside another one", herd, 4, 4, 0, 1, 0, 0, 0);
        Check.grain("not met by it", herd, 2, 32, 692, 10, 9, 1, 1);
        herd.tick(1);
        Check.due("they meet a tick later", herd.count(3) + herd.count(4) + herd.count(2) > 1, true);
    }

    private static void darkness() {
        RingHerd herd = new RingHerd();
        herd.grain(30, 0, 5, 0);
        for (int i = 0; i < 19; i++) {
            herd.tick(50);
        }
        herd.tick(49);
        Check.due("nearly as dark as can be", herd.told(0, 4), 999);
        herd.tick(1);
        Check.due("as dark as can be", herd.told(0, 4), 1000);
        herd.tick(1);
        Check.due("no darker", herd.told(0, 4), 1000);
        RingHerd gone = stuck(30, 5, 30, 5);
        gone.tick(1);
        Check.due("of one that is there", gone.told(0, 4), 2);
        Check.due("of one that is gone", gone.told(1, 4), 0);
        Check.due("of one that came by breaking", broken(30, 5, 30, 5).told(2, 4), 1);
    }

    private static void asAtFirst() {
        int[][] unrestsAndCounts = {{10, 10, 1, 0, 0}, {10, 11, 0, 0, 1}, {40, 40, 0, 0, 1}, {40, 41, 0, 1, 0}};
        for (int[] row : unrestsAndCounts) {
            RingHerd herd = new RingHerd();
            herd.grain(30, 0, 5, row[0]);
            herd.grain(30, 0, 5, row[1]);
            herd.tick(1);
            String clash = " by a clash of " + (row[0] + row[1]);
            Check.due("sticks" + clash, herd.count(2), row[2]);
            Check.due("breaks" + clash, herd.count(3), row[3]);
            Check.due("bumps" + clash, herd.count(4), row[4]);
        }
        RingHerd springs = new RingHerd();
        springs.grain(30, 0, 1, 99);
        springs.grain(30, 0, 1, 98);
        springs.tick(1);
        Check.due("99 by the spring", springs.told(0, 3), 49);
        Check.due("98 by the spring", springs.told(1, 3), 49);
    }
}
