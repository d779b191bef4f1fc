/** The boundary cases of the Terms ahead of "A tick": what lanes, angles, grains and moons are. */
final class TermsBoundaries {
    private TermsBoundaries() {
    }

    static void all() {
        test("The aim is that mass and momentum are kept but for losses that are told",
            TermsBoundaries::lossesAreTold);
        test("that each claim can be looked at again by its frame", TermsBoundaries::claimsLastAsLongAsFrames);
        test("If several exceptions apply to a call, the one that its comment lists first is thrown.",
            TermsBoundaries::severalExceptions);
        test("A call that throws an exception changes nothing.", Refusals::changeNothing);
        test("Divisions are rounded down", TermsBoundaries::divisionsAreRoundedDown);
        test("what could be below 0 is told", TermsBoundaries::whatIsBelowZero);
        test("There are the lanes 0 to 63", TermsBoundaries::firstAndLastLane);
        test("the radius of a lane is it and 20", TermsBoundaries::radiusOfTheFirstAndTheLastLane);
        test("Angles are in hundredths of a degree, 0 to 35999.", TermsBoundaries::leastAndMostAngle);
        test("The speed of a lane is 36000 divided by its radius, and 100 times the flatness, divided by the "
            + "radius times the radius, together", TermsBoundaries::speedAtTheEnds);
        test("the flatness is 0 to 1000, 0 at first", TermsBoundaries::leastAndMostFlatness);
        test("How far two angles are apart is the shorter way round.", TermsBoundaries::shorterWayRound);
        test("Grains are numbered from 0", TermsBoundaries::firstGrainIsZero);
        test("at most 80 ever", TermsBoundaries::eightyGrainsEver);
        test("with those that come by breaking", TermsBoundaries::eightyWithBrokenOnes);
        test("a mass, 1 to 10000 as it is told", TermsBoundaries::massAsItIsTold);
        test("unrest, 0 to 99", TermsBoundaries::leastAndMostUnrest);
        test("and darkness, 0 at first", TermsBoundaries::noDarknessAtFirst);
        test("It is there, until it sticks to another one, rains, or escapes.", TermsBoundaries::thereUntil);
        test("Its momentum is its mass times the radius of its lane.", TermsBoundaries::momentumAtTheEnds);
        test("Moons are numbered from 0, at most 6", TermsBoundaries::sixMoons);
        test("a moon has a lane, which it keeps", TermsBoundaries::moonsKeepTheirLane);
        test("an angle, and a mass, 1 to 10000", TermsBoundaries::leastAndMostMoon);
        test("its width is the root of its mass, rounded down, divided by 20", TermsBoundaries::widths);
        test("It gives momentum to grains, and takes some", TermsBoundaries::givesAndTakes);
        test("what moons gave in all is noted, less what they took, perhaps below 0",
            TermsBoundaries::givenBelowZero);
        test("A grain that goes to the lane -1 rains on the planet", TermsBoundaries::behindTheFirstLane);
        test("one that goes to the lane 64 escapes", TermsBoundaries::behindTheLastLane);
        test("both are gone, with their mass", TermsBoundaries::goneWithTheirMass);
        test("and with their momentum as it is in that lane (radius 19, or 84)",
            TermsBoundaries::goneWithTheirMomentum);
        test("The constants: `NONE = -1`: None.", TermsBoundaries::none);
        Sentence.test("What it is", "An object is used for at most 512 calls after it has been made",
            TermsBoundaries::lastCall);
    }

    private static void test(String words, Runnable test) {
        Sentence.test("Terms", words, test);
    }

    /** Grains in the first and the last lanes: some are pushed off them by moons, some by bumps and breaks. */
    private static void lossesAreTold() {
        RingHerd herd = new RingHerd();
        herd.moon(1, 0, 400);
        herd.moon(62, 0, 400);
        for (int i = 0; i < 24; i++) {
            herd.grain(i % 2 == 0 ? i % 3 : 63 - i % 3, 36 * i, 100 + 7 * i, 4 * i);
        }
        herd.tick(40);
        Check.due("some rained", herd.count(5) > 0, true);
        Check.due("some escaped", herd.count(6) > 0, true);
        Check.due("the mass that was put", herd.sum(0) + herd.sum(1) + herd.sum(2), herd.sum(3));
        Check.due("the momentum that was put or given",
            herd.momentum(0) + herd.momentum(1) + herd.momentum(2) + herd.momentum(5),
            herd.momentum(3) + herd.momentum(4));
    }

    private static void claimsLastAsLongAsFrames() {
        RingHerd herd = new RingHerd();
        herd.grain(30, 0, 7, 0);
        herd.frame();
        herd.claim(0, 30, 30, 6);
        herd.claim(0, 30, 30, 7);
        herd.grain(30, 18000, 100, 0);
        for (int i = 0; i < 40; i++) {
            herd.tick(50);
        }
        Check.due("a wrong claim at the last tick", herd.holds(0, RingHerd.NONE), false);
        Check.due("a true claim at the last tick", herd.holds(1, RingHerd.NONE), true);
    }

    private static void severalExceptions() {
        RingHerd herd = Refusals.full();
        Check.throwsJust(Sentence.ARGUMENT, "grain: wrong, and 80", () -> herd.grain(-1, 0, 1, 0));
        Check.throwsJust(Sentence.ARGUMENT, "moon: wrong, and 6", () -> herd.moon(0, 0, 0));
        Check.throwsJust(Sentence.ARGUMENT, "tick: too many, and above 2000", () -> herd.tick(51));
        Check.throwsJust(Sentence.NUMBER, "claim: no frame, wrong, and 40", () -> herd.claim(20, 0, 64, 0));
        Check.throwsJust(Sentence.NUMBER, "claim: no frame, and 40", () -> herd.claim(-1, 0, 0, 0));
        Check.throwsJust(Sentence.ARGUMENT, "claim: wrong, and 40", () -> herd.claim(0, 0, 0, -1));
        RingHerd free = new RingHerd();
        Check.throwsJust(Sentence.NUMBER, "claim: no frame, and wrong", () -> free.claim(0, -1, 0, 0));
        Check.throwsJust(Sentence.NUMBER, "told: no grain, and wrong", () -> free.told(0, 6));
        Check.throwsJust(Sentence.NUMBER, "resonance: no moon, and wrong", () -> free.resonance(0, 64));
        Check.throwsJust(Sentence.NUMBER, "gap: no gap, and wrong", () -> free.gap(0, 3));
        Check.throwsJust(Sentence.NUMBER, "framed: no frame, and wrong", () -> free.framed(0, 64));
    }

    private static void divisionsAreRoundedDown() {
        RingHerd herd = new RingHerd();
        Check.due("36000 by 22", herd.speed(2), 1636);
        herd.flatness(3);
        // 1384.6 and 0.4, each rounded down.
        Check.due("36000 by 26, and 300 by 676", herd.speed(6), 1384);
        herd.flatness(7);
        Check.due("36000 by 20, and 700 by 400", herd.speed(0), 1801);
        RingHerd stuck = two(31, 9999, 0, 30, 1, 0);
        Check.due("309999 by 10000", stuck.told(0, 0), 30);
        RingHerd broken = two(30, 9, 99, 30, 7, 99);
        Check.due("half of 7", broken.told(1, 2), 3);
        RingHerd bumped = two(30, 9, 33, 30, 7, 1);
        Check.due("33 times 50 by 100", bumped.told(0, 3), 16);
        Check.due("1 times 50 by 100", bumped.told(1, 3), 0);
    }

    /** Two grains at one angle, a tick later. */
    private static RingHerd two(int lane, int mass, int unrest, int otherLane, int otherMass, int otherUnrest) {
        RingHerd herd = new RingHerd();
        herd.grain(lane, 0, mass, unrest);
        herd.grain(otherLane, 0, otherMass, otherUnrest);
        herd.tick(1);
        return herd;
    }

    private static void whatIsBelowZero() {
        RingHerd cooled = two(31, 10, 30, 30, 4, 30);
        Check.due("the heat", cooled.momentum(5), -6);
        RingHerd taken = grainByMoon(29, 10, 30, 400);
        Check.due("what moons gave", taken.momentum(4), -10);
        RingHerd rained = grainByMoon(0, 10, 1, 400);
        Check.due("the lane of one that rained", rained.told(0, 0), -1);
    }

    /** A grain and a moon at one angle, a tick later. */
    private static RingHerd grainByMoon(int lane, int mass, int moonLane, int moonMass) {
        RingHerd herd = new RingHerd();
        herd.grain(lane, 0, mass, 0);
        herd.moon(moonLane, 0, moonMass);
        herd.tick(1);
        return herd;
    }

    private static void firstAndLastLane() {
        RingHerd herd = new RingHerd();
        for (int lane : new int[] {0, 63}) {
            herd.grain(lane, 0, 5, 0);
            herd.moon(lane, 0, 5);
            Check.due("mass(" + lane + ")", herd.mass(lane), 5);
        }
        Check.throwsJust(Sentence.ARGUMENT, "mass(-1)", () -> herd.mass(-1));
        Check.throwsJust(Sentence.ARGUMENT, "mass(64)", () -> herd.mass(64));
    }

    private static void radiusOfTheFirstAndTheLastLane() {
        RingHerd herd = new RingHerd();
        herd.grain(0, 0, 1, 0);
        Check.due("of lane 0", herd.momentum(0), 20);
        herd.grain(63, 0, 1, 0);
        Check.due("of lane 63", herd.momentum(0), 20 + 83);
        Check.due("of both, by lanes", herd.momentumByLanes(), 20 + 83);
    }

    private static void leastAndMostAngle() {
        RingHerd herd = new RingHerd();
        Check.due("grain at 0", herd.grain(30, 0, 1, 0), 0);
        Check.due("grain at 35999", herd.grain(40, 35999, 1, 0), 1);
        Check.due("moon at 0", herd.moon(10, 0, 1), 0);
        Check.due("moon at 35999", herd.moon(20, 35999, 1), 1);
        Check.throwsJust(Sentence.ARGUMENT, "grain at -1", () -> herd.grain(30, -1, 1, 0));
        Check.throwsJust(Sentence.ARGUMENT, "grain at 36000", () -> herd.grain(30, 36000, 1, 0));
        Check.throwsJust(Sentence.ARGUMENT, "moon at -1", () -> herd.moon(30, -1, 1));
        Check.throwsJust(Sentence.ARGUMENT, "moon at 36000", () -> herd.moon(30, 36000, 1));
        for (int i = 1; i <= 60; i++) {
            herd.tick(1);
            Check.due("a grain's angle", herd.told(0, 1), 720 * i % 36000);
            Check.due("a grain's angle", herd.told(1, 1), (35999 + 600 * i) % 36000);
            Check.due("a moon's angle", herd.angle(0), 1200 * i % 36000);
            Check.due("a moon's angle", herd.angle(1), (35999 + 900 * i) % 36000);
        }
    }

    private static void speedAtTheEnds() {
        RingHerd herd = new RingHerd();
        Check.due("speed(0), not flat", herd.speed(0), 1800);
        Check.due("speed(63), not flat", herd.speed(63), 433);
        herd.flatness(1000);
        Check.due("speed(0), flat as can be", herd.speed(0), 1800 + 250);
        Check.due("speed(63), flat as can be", herd.speed(63), 433 + 14);
    }

    private static void leastAndMostFlatness() {
        RingHerd herd = new RingHerd();
        Check.due("at first", herd.flatness(1000), 0);
        Check.due("1000 was set", herd.flatness(0), 1000);
        Check.due("0 was set", herd.flatness(0), 0);
        Check.throwsJust(Sentence.ARGUMENT, "flatness(-1)", () -> herd.flatness(-1));
        Check.throwsJust(Sentence.ARGUMENT, "flatness(1001)", () -> herd.flatness(1001));
    }

    private static void shorterWayRound() {
        meets(35950, 50, true);
        meets(50, 35950, true);
        meets(35999, 99, true);
        meets(0, 35900, true);
        meets(35950, 51, false);
        meets(51, 35950, false);
        meets(0, 35899, false);
        meets(0, 18000, false);
        RingHerd herd = new RingHerd();
        herd.grain(30, 35780, 5, 0);
        herd.moon(30, 780, 1);
        herd.tick(1);
        Check.due("500 and 1500", herd.told(0, 0), 31);
        RingHerd round = new RingHerd();
        round.grain(30, 34780, 5, 0);
        round.moon(30, 35780, 1);
        round.tick(1);
        Check.due("35500 and 500", round.told(0, 0), 31);
    }

    /** Whether two grains of lane 30 meet, that stand at these angles when their tick is at its third step. */
    private static void meets(int angle, int otherAngle, boolean due) {
        RingHerd herd = new RingHerd();
        herd.grain(30, (angle + 36000 - 720) % 36000, 5, 0);
        herd.grain(30, (otherAngle + 36000 - 720) % 36000, 5, 0);
        herd.tick(1);
        Check.due(angle + " and " + otherAngle + " meet", herd.count(2), due ? 1 : 0);
    }

    private static void firstGrainIsZero() {
        RingHerd herd = new RingHerd();
        Check.throwsJust(Sentence.NUMBER, "told(0, 0) of none", () -> herd.told(0, 0));
        Check.due("the first", herd.grain(17, 0, 1, 0), 0);
        Check.due("the second", herd.grain(18, 0, 1, 0), 1);
        Check.due("told(0, 0)", herd.told(0, 0), 17);
        Check.due("told(1, 0)", herd.told(1, 0), 18);
    }

    private static void eightyGrainsEver() {
        RingHerd herd = new RingHerd();
        for (int i = 0; i < 80; i++) {
            Check.due("grain", herd.grain(30, 0, 1, 0), i);
        }
        Check.throwsJust(Sentence.STATE, "the 81st", () -> herd.grain(30, 0, 1, 0));
        herd.tick(7);
        Check.due("all but one stuck", herd.count(1), 1);
        Check.throwsJust(Sentence.STATE, "the 81st, with one there", () -> herd.grain(30, 0, 1, 0));
        Check.due("told of the 80th", herd.told(79, 2), 1);
    }

    private static void eightyWithBrokenOnes() {
        RingHerd herd = new RingHerd();
        herd.grain(30, 0, 9, 99);
        herd.grain(30, 0, 8, 99);
        for (int i = 2; i < 79; i++) {
            herd.grain(50, 400 * i, 1, 0);
        }
        herd.tick(1);
        Check.due("one came by breaking", herd.count(3), 1);
        Check.due("it has the next number", herd.told(79, 2), 4);
        Check.throwsJust(Sentence.STATE, "the 81st", () -> herd.grain(10, 0, 1, 0));
    }

    private static void massAsItIsTold() {
        RingHerd herd = new RingHerd();
        herd.grain(30, 0, 10000, 0);
        herd.grain(30, 0, 10000, 0);
        herd.grain(50, 0, 1, 0);
        Check.throwsJust(Sentence.ARGUMENT, "a mass of 0", () -> herd.grain(30, 0, 0, 0));
        Check.throwsJust(Sentence.ARGUMENT, "a mass of 10001", () -> herd.grain(30, 0, 10001, 0));
        herd.tick(1);
        Check.due("more than is told, by sticking", herd.told(0, 2), 20000);
        Check.due("the least", herd.told(2, 2), 1);
    }

    private static void leastAndMostUnrest() {
        RingHerd herd = new RingHerd();
        herd.grain(30, 0, 5, 0);
        herd.grain(40, 0, 5, 99);
        Check.due("the least", herd.told(0, 3), 0);
        Check.due("the most", herd.told(1, 3), 99);
        Check.throwsJust(Sentence.ARGUMENT, "an unrest of -1", () -> herd.grain(30, 0, 5, -1));
        Check.throwsJust(Sentence.ARGUMENT, "an unrest of 100", () -> herd.grain(30, 0, 5, 100));
        herd.moon(40, 0, 1);
        herd.tick(1);
        Check.due("no more by a push", herd.told(1, 3), 99);
    }

    private static void noDarknessAtFirst() {
        RingHerd herd = new RingHerd();
        herd.grain(30, 0, 5, 0);
        Check.due("the first one's", herd.told(0, 4), 0);
        herd.tick(9);
        herd.grain(40, 0, 5, 0);
        Check.due("a later one's", herd.told(1, 4), 0);
    }

    private static void thereUntil() {
        RingHerd herd = new RingHerd();
        herd.grain(30, 0, 5, 0);
        herd.grain(30, 0, 5, 0);
        herd.grain(0, 0, 5, 0);
        herd.grain(63, 0, 5, 0);
        herd.moon(1, 0, 400);
        herd.moon(63, 0, 1);
        for (int i = 0; i < 4; i++) {
            Check.due("there at first: " + i, herd.told(i, 5), 1);
        }
        herd.tick(1);
        Check.due("one that another one stuck to", herd.told(0, 5), 1);
        Check.due("one that stuck", herd.told(1, 5), 0);
        Check.due("one that rained", herd.told(2, 5), 0);
        Check.due("one that escaped", herd.told(3, 5), 0);
        Check.due("those that are there", herd.count(1), 1);
    }

    private static void momentumAtTheEnds() {
        RingHerd least = new RingHerd();
        least.grain(0, 0, 1, 0);
        Check.due("the least", least.momentum(0), 20);
        RingHerd most = new RingHerd();
        for (int i = 0; i < 80; i++) {
            most.grain(63, 0, 10000, 0);
        }
        Check.due("the most", most.momentum(0), 80L * 10000 * 83);
    }

    private static void sixMoons() {
        RingHerd herd = new RingHerd();
        Check.throwsJust(Sentence.NUMBER, "angle(0) of none", () -> herd.angle(0));
        for (int i = 0; i < 6; i++) {
            Check.due("moon", herd.moon(i, 100 * i, 1), i);
        }
        Check.throwsJust(Sentence.STATE, "the 7th", () -> herd.moon(6, 0, 1));
        Check.due("angle(5)", herd.angle(5), 500);
        Check.throwsJust(Sentence.NUMBER, "angle(6)", () -> herd.angle(6));
    }

    private static void moonsKeepTheirLane() {
        RingHerd herd = new RingHerd();
        herd.moon(0, 0, 10000);
        herd.moon(63, 0, 10000);
        herd.moon(62, 0, 10000);
        herd.grain(0, 0, 10000, 99);
        herd.grain(63, 0, 10000, 99);
        herd.tick(20);
        Check.due("the first lane's", herd.angle(0), 0);
        Check.due("the last lane's", herd.angle(1), 20 * 433);
        Check.due("the last lane but one's", herd.angle(2), 20 * 439);
        Check.due("moons are in no lane's mass", herd.mass(62), 0);
    }

    private static void leastAndMostMoon() {
        RingHerd herd = new RingHerd();
        Check.due("a mass of 1", herd.moon(30, 0, 1), 0);
        Check.due("a mass of 10000", herd.moon(30, 0, 10000), 1);
        Check.throwsJust(Sentence.ARGUMENT, "a mass of 0", () -> herd.moon(30, 0, 0));
        Check.throwsJust(Sentence.ARGUMENT, "a mass of 10001", () -> herd.moon(30, 0, 10001));
    }

    private static void widths() {
        int[][] massAndWidth = {{1, 0}, {399, 0}, {400, 1}, {1599, 1}, {1600, 2}, {3599, 2}, {3600, 3}, {6399, 3},
            {6400, 4}, {9999, 4}, {10000, 5}};
        for (int[] row : massAndWidth) {
            String moon = "by a moon of mass " + row[0] + ", ";
            Check.due(moon + "in", grainByMoon(30 - row[1], 5, 30, row[0]).momentum(4), row[1] == 0 ? 5 : -5);
            Check.due(moon + "out", grainByMoon(30 + row[1], 5, 30, row[0]).momentum(4), 5);
            Check.due(moon + "too far in", grainByMoon(29 - row[1], 5, 30, row[0]).momentum(4), 0);
            Check.due(moon + "too far out", grainByMoon(31 + row[1], 5, 30, row[0]).momentum(4), 0);
        }
    }

    private static void givesAndTakes() {
        RingHerd gives = grainByMoon(31, 7, 30, 400);
        Check.due("a grain has more", gives.momentum(0), 7 * 52);
        Check.due("the moon gave", gives.momentum(4), 7);
        RingHerd takes = grainByMoon(29, 7, 30, 400);
        Check.due("a grain has less", takes.momentum(0), 7 * 48);
        Check.due("the moon took", takes.momentum(4), -7);
    }

    private static void givenBelowZero() {
        RingHerd herd = new RingHerd();
        herd.moon(30, 0, 400);
        herd.moon(50, 0, 400);
        herd.grain(31, 0, 10, 0);
        herd.grain(49, 0, 10, 0);
        herd.tick(1);
        Check.due("as much as was taken", herd.momentum(4), 0);
        herd.grain(49, herd.angle(1), 1, 0);
        herd.tick(1);
        Check.due("one more was taken", herd.momentum(4), -1);
        Check.due("no heat by it", herd.momentum(5), 0);
    }

    private static void behindTheFirstLane() {
        RingHerd stays = grainByMoon(1, 7, 2, 400);
        Check.due("from lane 1", stays.told(0, 0), 0);
        Check.due("none rained", stays.count(5), 0);
        RingHerd rains = grainByMoon(0, 7, 1, 400);
        Check.due("from lane 0", rains.told(0, 0), -1);
        Check.due("one rained", rains.count(5), 1);
        Check.due("none escaped", rains.count(6), 0);
    }

    private static void behindTheLastLane() {
        RingHerd stays = grainByMoon(62, 7, 61, 400);
        Check.due("from lane 62", stays.told(0, 0), 63);
        Check.due("none escaped", stays.count(6), 0);
        RingHerd escapes = grainByMoon(63, 7, 62, 400);
        Check.due("from lane 63", escapes.told(0, 0), 64);
        Check.due("one escaped", escapes.count(6), 1);
        Check.due("none rained", escapes.count(5), 0);
    }

    private static void goneWithTheirMass() {
        RingHerd rained = grainByMoon(0, 7, 1, 400);
        Check.sums("one rained", rained, 0, 7, 0, 7);
        Check.due("mass(0)", rained.mass(0), 0);
        RingHerd escaped = grainByMoon(63, 9, 62, 400);
        Check.sums("one escaped", escaped, 0, 0, 9, 9);
        Check.due("mass(63)", escaped.mass(63), 0);
    }

    private static void goneWithTheirMomentum() {
        RingHerd rained = grainByMoon(0, 7, 1, 400);
        Check.momenta("one rained", rained, 0, 7 * 19, 0, 7 * 20, -7, 0);
        RingHerd escaped = grainByMoon(63, 9, 62, 400);
        Check.momenta("one escaped", escaped, 0, 0, 9 * 84, 9 * 83, 9, 0);
    }

    /** A compiler writes a constant into what uses it, so it is looked up when the test runs. */
    private static void none() {
        try {
            Check.due("NONE", RingHerd.class.getField("NONE").getInt(null), -1);
        } catch (ReflectiveOperationException e) {
            Check.due("NONE is told by", e.toString(), "the class");
        }
    }

    private static void lastCall() {
        RingHerd herd = new RingHerd();
        herd.grain(0, 0, 1, 0);
        for (int call = 2; call < 512; call++) {
            herd.tick(1);
        }
        Check.due("the 512th call", herd.told(0, 1), 1800 * 510 % 36000);
    }
}
