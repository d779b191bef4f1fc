/** Promise 6: tick. */
public final class TickTest {
    public static void main(String[] args) {
        ticksAndTheirLimits();
        anglesGrow();
        moonsPushAside();
        widthOfMoons();
        pushesByAngle();
        moonsByRisingNumbers();
        sixMoons();
        unrestOfPushes();
        rainByAMoon();
        escapeByAMoon();
        whoMeets();
        eachMeetsOne();
        sticking();
        stickingLanes();
        darknessOfSticking();
        sticksOverAndOver();
        bumping();
        springs();
        bumpsOffTheLanes();
        breaking();
        breakingOffTheLanes();
        whoDoesNotBreak();
        newGrainMeetsNone();
        speedsInAClash();
        darkening();
        Check.end("TickTest");
    }

    private static void ticksAndTheirLimits() {
        RingHerd herd = new RingHerd();
        herd.grain(10, 0, 3, 0);
        Check.due("tick(1)", herd.tick(1), 1);
        Check.due("tick(49)", herd.tick(49), 50);
        Check.due("now()", herd.now(), 50);
        wrongTicks(herd);
        for (int i = 2; i < 40; i++) {
            Check.due("tick(50)", herd.tick(50), 50 * i);
        }
        herd.tick(40);
        Check.wrongState(herd, "tick(11) at 1990", () -> herd.tick(11));
        Check.wrongState(herd, "tick(50) at 1990", () -> herd.tick(50));
        Check.due("tick(10) at 1990", herd.tick(10), 2000);
        Check.wrongState(herd, "tick(1) at 2000", () -> herd.tick(1));
        wrongTicks(herd);
    }

    private static void wrongTicks(RingHerd herd) {
        for (int ticks : new int[] {0, -1, 51, Integer.MIN_VALUE, Integer.MAX_VALUE}) {
            Check.wrongArgument(herd, "tick(" + ticks + ")", () -> herd.tick(ticks));
        }
    }

    private static void anglesGrow() {
        RingHerd herd = new RingHerd();
        herd.grain(0, 34199, 1, 0);
        herd.grain(4, 34500, 1, 0);
        herd.grain(63, 0, 1, 0);
        herd.moon(52, 35000, 1);
        herd.moon(52, 35500, 1);
        herd.tick(1);
        Check.due("1800 further, just not round", herd.told(0, 1), 35999);
        Check.due("1500 further, just round", herd.told(1, 1), 0);
        Check.due("433 further", herd.told(2, 1), 433);
        Check.due("a moon 500 further", herd.angle(0), 35500);
        Check.due("a moon round", herd.angle(1), 0);
        herd.flatness(1000);
        herd.tick(2);
        Check.due("twice 2050 further", herd.told(0, 1), 4099);
        Check.due("twice 447 further", herd.told(2, 1), 433 + 894);
        Check.due("a moon twice 519 further", herd.angle(0), 538);
    }

    /** A moon of lane 30 and width 1, at 720 after a tick, and a grain with no other one near it. */
    private static RingHerd oneGrainByAMoon(int lane, int angle) {
        RingHerd herd = new RingHerd();
        herd.grain(lane, angle, 10, 1);
        herd.moon(30, 0, 400);
        herd.tick(1);
        return herd;
    }

    private static void moonsPushAside() {
        RingHerd out = oneGrainByAMoon(31, 15);
        Check.grain("out of the moon's way", out, 0, 32, 720, 10, 6, 1, 1);
        Check.momenta("the moon gives", out, 520, 0, 0, 510, 10, 0);
        RingHerd in = oneGrainByAMoon(29, 0);
        Check.grain("in, out of the moon's way", in, 0, 28, 734, 10, 6, 1, 1);
        Check.momenta("the moon takes", in, 480, 0, 0, 490, -10, 0);
        RingHerd same = oneGrainByAMoon(30, 0);
        Check.grain("out of the moon's own lane", same, 0, 31, 720, 10, 6, 1, 1);
        Check.momenta("the moon gives in its own lane", same, 510, 0, 0, 500, 10, 0);
        RingHerd farOut = oneGrainByAMoon(32, 0);
        Check.grain("two lanes out", farOut, 0, 32, 692, 10, 1, 1, 1);
        RingHerd farIn = oneGrainByAMoon(28, 0);
        Check.grain("two lanes in", farIn, 0, 28, 750, 10, 1, 1, 1);
        Check.momenta("no push", farIn, 480, 0, 0, 480, 0, 0);
    }

    private static void widthOfMoons() {
        int[][] massAndWidth = {{1, 0}, {399, 0}, {400, 1}, {1599, 1}, {1600, 2}, {3599, 2}, {3600, 3}, {6399, 3},
            {6400, 4}, {9999, 4}, {10000, 5}};
        for (int[] pair : massAndWidth) {
            for (int lane = 20; lane <= 40; lane++) {
                RingHerd herd = new RingHerd();
                herd.grain(lane, 0, 10, 0);
                herd.moon(30, 0, pair[0]);
                herd.tick(1);
                int away = Math.abs(lane - 30);
                int due = away > pair[1] ? lane : lane < 30 ? lane - 1 : lane + 1;
                Check.due("a moon of mass " + pair[0] + " and lane " + lane, herd.told(0, 0), due);
            }
        }
    }

    private static void pushesByAngle() {
        // The grain of lane 31 goes 705 on, the moon stands at 720 then.
        Check.due("1000 ahead", oneGrainByAMoon(31, 1015).told(0, 0), 32);
        Check.due("1001 ahead", oneGrainByAMoon(31, 1016).told(0, 0), 31);
        Check.due("1000 behind, round", oneGrainByAMoon(31, 35015).told(0, 0), 32);
        Check.due("1001 behind, round", oneGrainByAMoon(31, 35014).told(0, 0), 31);
        Check.due("on the other side", oneGrainByAMoon(31, 18015).told(0, 0), 31);
    }

    private static void moonsByRisingNumbers() {
        RingHerd twice = new RingHerd();
        twice.grain(31, 0, 10, 0);
        twice.moon(30, 0, 400);
        twice.moon(32, 0, 1);
        twice.tick(1);
        Check.due("pushed by both moons", twice.told(0, 0), 33);
        Check.due("unrest by both moons", twice.told(0, 3), 10);
        Check.due("both gave", twice.momentum(4), 20);
        RingHerd once = new RingHerd();
        once.grain(31, 0, 10, 0);
        once.moon(32, 0, 1);
        once.moon(30, 0, 400);
        once.tick(1);
        Check.due("pushed by the second moon alone", once.told(0, 0), 32);
        RingHerd back = new RingHerd();
        back.grain(31, 0, 10, 0);
        back.moon(30, 0, 400);
        back.moon(33, 0, 400);
        back.tick(1);
        Check.grain("pushed there and back", back, 0, 31, 705, 10, 10, 1, 1);
        Check.due("given and taken", back.momentum(4), 0);
    }

    private static void sixMoons() {
        RingHerd herd = new RingHerd();
        herd.grain(10, 0, 3, 0);
        for (int lane = 10; lane <= 15; lane++) {
            herd.moon(lane, 0, 1);
        }
        Check.due("tick(1)", herd.tick(1), 1);
        Check.grain("pushed by six moons", herd, 0, 16, 1200, 3, 30, 1, 1);
        Check.due("all moons go round", herd.angle(5), 1028);
        Check.momenta("all moons give", herd, 108, 0, 0, 90, 18, 0);
    }

    private static void unrestOfPushes() {
        for (int unrest = 90; unrest <= 99; unrest++) {
            RingHerd herd = new RingHerd();
            herd.grain(30, 0, 10, unrest);
            herd.moon(30, 0, 1);
            herd.tick(1);
            Check.due("unrest " + unrest + " after a push", herd.told(0, 3), Math.min(99, unrest + 5));
        }
    }

    private static void rainByAMoon() {
        RingHerd herd = new RingHerd();
        herd.grain(0, 0, 10, 7);
        herd.grain(1, 20000, 4, 0);
        herd.moon(1, 0, 400);
        herd.moon(0, 0, 10000);
        herd.tick(1);
        Check.grain("rained", herd, 0, -1, 1800, 10, 12, 0, 0);
        Check.counts("rained", herd, 2, 1, 0, 0, 0, 1, 0);
        Check.sums("rained", herd, 4, 10, 0, 14);
        Check.momenta("rained", herd, 84, 190, 0, 284, -10, 0);
        Check.due("mass(0)", herd.mass(0), 0);
        herd.tick(1);
        Check.grain("stays as it was last", herd, 0, -1, 1800, 10, 12, 0, 0);
        Check.momenta("rains once", herd, 84, 190, 0, 284, -10, 0);
    }

    private static void escapeByAMoon() {
        RingHerd herd = new RingHerd();
        herd.grain(63, 0, 10, 97);
        herd.moon(63, 0, 1);
        herd.moon(62, 0, 10000);
        herd.tick(1);
        Check.grain("escaped", herd, 0, 64, 433, 10, 99, 0, 0);
        Check.counts("escaped", herd, 1, 0, 0, 0, 0, 0, 1);
        Check.sums("escaped", herd, 0, 0, 10, 10);
        Check.momenta("escaped", herd, 0, 0, 840, 830, 10, 0);
        herd.grain(63, 433, 2, 0);
        herd.tick(1);
        Check.counts("the next one escapes", herd, 2, 0, 0, 0, 0, 0, 2);
        Check.sums("the next one escapes", herd, 0, 0, 12, 12);
        Check.momenta("the next one escapes", herd, 0, 0, 840 + 168, 830 + 166, 12, 0);
    }

    /** Whether two grains of these lanes, that stand at these angles after the tick's first step, meet. */
    private static void meets(int lane, int angle, int otherLane, int otherAngle, boolean due) {
        RingHerd herd = new RingHerd();
        herd.bounds(0, 5000, 100);
        herd.grain(lane, Math.floorMod(angle - 36000 / (lane + 20), 36000), 10, 50);
        herd.grain(otherLane, Math.floorMod(otherAngle - 36000 / (otherLane + 20), 36000), 10, 50);
        herd.tick(1);
        String pair = "lanes " + lane + " and " + otherLane + ", angles " + angle + " and " + otherAngle;
        Check.counts(pair, herd, 2, 2, 0, 0, due ? 1 : 0, 0, 0);
    }

    private static void whoMeets() {
        meets(30, 5000, 30, 5100, true);
        meets(30, 5100, 30, 5000, true);
        meets(30, 5000, 30, 5101, false);
        meets(30, 5101, 30, 5000, false);
        meets(30, 35950, 30, 50, true);
        meets(30, 50, 30, 35950, true);
        meets(30, 35950, 30, 51, false);
        meets(30, 51, 30, 35950, false);
        meets(30, 0, 30, 18000, false);
        meets(30, 5000, 31, 5100, true);
        meets(31, 5000, 30, 5100, true);
        meets(30, 5000, 32, 5000, false);
        meets(32, 5000, 30, 5000, false);
    }

    private static void eachMeetsOne() {
        RingHerd three = new RingHerd();
        three.grain(30, 0, 10, 0);
        three.grain(30, 0, 20, 0);
        three.grain(30, 0, 40, 0);
        three.tick(1);
        Check.counts("three at one place", three, 3, 2, 1, 0, 0, 0, 0);
        Check.due("the lowest two stuck", three.told(0, 2), 30);
        three.tick(1);
        Check.due("the third sticks a tick later", three.told(0, 2), 70);
        RingHerd four = new RingHerd();
        four.grain(30, 0, 1, 0);
        four.grain(30, 150, 2, 0);
        four.grain(30, 60, 4, 0);
        four.grain(30, 250, 8, 0);
        four.tick(1);
        Check.counts("four in a row", four, 4, 2, 2, 0, 0, 0, 0);
        Check.due("0 meets 2, its first near one", four.told(0, 2), 5);
        Check.due("1 meets 3, as 2 has met", four.told(1, 2), 10);
        RingHerd gone = new RingHerd();
        gone.grain(0, 0, 10, 30);
        gone.grain(0, 0, 10, 30);
        gone.tick(1);
        Check.counts("one rains by a bump", gone, 2, 1, 0, 0, 1, 1, 0);
        gone.grain(0, 0, 10, 30);
        gone.tick(1);
        Check.due("they stand at one angle", gone.told(2, 1), gone.told(0, 1));
        Check.counts("one that is gone meets none", gone, 3, 2, 0, 0, 1, 1, 0);
        RingHerd bumped = new RingHerd();
        bumped.grain(30, 0, 1, 30);
        bumped.grain(30, 0, 2, 30);
        bumped.grain(30, 0, 4, 30);
        bumped.tick(1);
        Check.counts("the second has met", bumped, 3, 3, 0, 0, 1, 0, 0);
        Check.grain("nobody to meet is left", bumped, 2, 30, 720, 4, 30, 1, 1);
        RingHerd aside = new RingHerd();
        aside.grain(30, 0, 1, 30);
        aside.grain(30, 150, 2, 30);
        aside.grain(30, 75, 4, 30);
        aside.tick(1);
        Check.counts("the third has met the first", aside, 3, 3, 0, 0, 1, 0, 0);
        Check.grain("so it does not meet the second", aside, 1, 30, 870, 2, 30, 1, 1);
    }

    private static void sticking() {
        RingHerd herd = new RingHerd();
        herd.grain(30, 40, 7, 9);
        herd.grain(30, 0, 5, 4);
        herd.tick(1);
        Check.grain("stuck", herd, 0, 30, 760, 12, 4, 1, 1);
        Check.grain("gone by sticking", herd, 1, 30, 720, 5, 4, 0, 0);
        Check.counts("stuck", herd, 2, 1, 1, 0, 0, 0, 0);
        Check.sums("stuck", herd, 12, 0, 0, 12);
        Check.momenta("stuck", herd, 600, 0, 0, 600, 0, 0);
        herd.tick(3);
        Check.grain("goes on", herd, 0, 30, 760 + 3 * 720, 12, 4, 4, 1);
        Check.grain("stays as it was last", herd, 1, 30, 720, 5, 4, 0, 0);
        RingHerd lesser = new RingHerd();
        lesser.grain(30, 0, 7, 3);
        lesser.grain(30, 0, 5, 4);
        lesser.tick(1);
        Check.due("the lesser unrest is the lower one's", lesser.told(0, 3), 3);
    }

    /** Two grains of lanes that are one apart stick; their speeds differ by 14 or 15. */
    private static void sticksIn(int lane, int mass, int otherLane, int otherMass, int due, int heat) {
        RingHerd herd = new RingHerd();
        herd.grain(lane, 0, mass, 0);
        herd.grain(otherLane, 0, otherMass, 0);
        herd.tick(1);
        String pair = mass + " in lane " + lane + " and " + otherMass + " in lane " + otherLane;
        Check.counts(pair, herd, 2, 1, 1, 0, 0, 0, 0);
        Check.due(pair, herd.told(0, 0), due);
        Check.due(pair, herd.told(0, 2), mass + otherMass);
        int put = mass * (lane + 20) + otherMass * (otherLane + 20);
        Check.momenta(pair, herd, put - heat, 0, 0, put, 0, heat);
    }

    private static void stickingLanes() {
        sticksIn(30, 10, 31, 10, 30, 10);
        sticksIn(31, 10, 30, 10, 30, 10);
        sticksIn(30, 1, 31, 10000, 30, 10000);
        sticksIn(31, 9999, 30, 1, 30, 9999);
        sticksIn(31, 3, 31, 4, 31, 0);
    }

    private static void darknessOfSticking() {
        RingHerd herd = new RingHerd();
        herd.grain(30, 0, 10, 0);
        herd.tick(10);
        herd.grain(30, herd.told(0, 1), 4, 0);
        herd.tick(1);
        // 10 of darkness 10 and 4 of darkness 0: 100 / 14 is 7, and the tick adds 1.
        Check.due("the darkness of both", herd.told(0, 4), 8);
        Check.due("the darkness as it was last", herd.told(1, 4), 0);
        herd.grain(30, herd.told(0, 1), 10000, 0);
        herd.tick(1);
        Check.due("hardly any darkness", herd.told(0, 4), 1);
    }

    private static void sticksOverAndOver() {
        RingHerd herd = new RingHerd();
        for (int i = 0; i < 80; i++) {
            herd.grain(63, 0, 10000, 0);
        }
        herd.tick(7);
        Check.counts("all stuck to one", herd, 80, 1, 79, 0, 0, 0, 0);
        Check.grain("all stuck to one", herd, 0, 63, 7 * 433, 800000, 0, 7, 1);
        Check.momenta("all stuck to one", herd, 66400000, 0, 0, 66400000, 0, 0);
        for (int i = 0; i < 21; i++) {
            herd.tick(50);
        }
        Check.due("as dark as can be", herd.told(0, 4), 1000);
    }

    private static void bumping() {
        RingHerd same = new RingHerd();
        same.grain(30, 0, 10, 31);
        same.grain(30, 90, 4, 22);
        same.tick(1);
        Check.grain("the lower number goes in", same, 0, 29, 720, 10, 15, 1, 1);
        Check.grain("the higher number goes out", same, 1, 31, 810, 4, 11, 1, 1);
        Check.counts("a bump", same, 2, 2, 0, 0, 1, 0, 0);
        Check.momenta("a bump warms", same, 694, 0, 0, 700, 0, 6);
        RingHerd apart = new RingHerd();
        apart.grain(31, 0, 10, 30);
        apart.grain(30, 0, 4, 30);
        apart.tick(1);
        Check.due("the higher lane goes out", apart.told(0, 0), 32);
        Check.due("the lower lane goes in", apart.told(1, 0), 29);
        Check.momenta("a bump cools", apart, 716, 0, 0, 710, 0, -6);
        RingHerd ordered = new RingHerd();
        ordered.grain(30, 0, 10, 30);
        ordered.grain(31, 0, 4, 30);
        ordered.tick(1);
        Check.due("the lower lane goes in", ordered.told(0, 0), 29);
        Check.due("the higher lane goes out", ordered.told(1, 0), 32);
        ordered.tick(50);
        Check.due("no second bump afar", ordered.count(4), 1);
    }

    private static void springs() {
        int[][] springAndUnrest = {{0, 0, 0}, {100, 33, 99}, {1, 0, 0}, {99, 32, 98}, {50, 16, 49}, {67, 22, 66}};
        for (int[] row : springAndUnrest) {
            RingHerd herd = new RingHerd();
            herd.bounds(20, 5000, row[0]);
            herd.grain(30, 0, 1, 33);
            herd.grain(30, 0, 1, 99);
            herd.tick(1);
            Check.due("33 by a spring of " + row[0], herd.told(0, 3), row[1]);
            Check.due("99 by a spring of " + row[0], herd.told(1, 3), row[2]);
        }
    }

    private static void bumpsOffTheLanes() {
        RingHerd rain = new RingHerd();
        rain.grain(0, 0, 10, 30);
        rain.grain(0, 0, 4, 30);
        rain.tick(1);
        Check.grain("rained by a bump", rain, 0, -1, 1800, 10, 15, 0, 0);
        Check.grain("the other one", rain, 1, 1, 1800, 4, 15, 1, 1);
        Check.counts("rained by a bump", rain, 2, 1, 0, 0, 1, 1, 0);
        Check.sums("rained by a bump", rain, 4, 10, 0, 14);
        Check.momenta("rained by a bump", rain, 84, 190, 0, 280, 0, 6);
        RingHerd escape = new RingHerd();
        escape.grain(63, 0, 10, 30);
        escape.grain(63, 0, 4, 30);
        escape.tick(1);
        Check.grain("escaped by a bump", escape, 1, 64, 433, 4, 15, 0, 0);
        Check.counts("escaped by a bump", escape, 2, 1, 0, 0, 1, 0, 1);
        Check.sums("escaped by a bump", escape, 10, 0, 4, 14);
        Check.momenta("escaped by a bump", escape, 820, 0, 336, 1162, 0, 6);
    }

    private static void breaking() {
        RingHerd herd = new RingHerd();
        herd.grain(30, 0, 20, 41);
        herd.tick(1);
        herd.grain(30, 720 + 90, 11, 40);
        herd.tick(1);
        Check.grain("the heavier one stays as it is", herd, 0, 30, 1440, 20, 41, 2, 1);
        Check.grain("the lighter one broke", herd, 1, 29, 1530, 5, 0, 1, 1);
        Check.grain("the new one", herd, 2, 31, 1530, 6, 0, 1, 1);
        Check.counts("a break", herd, 3, 3, 0, 1, 0, 0, 0);
        Check.sums("a break", herd, 31, 0, 0, 31);
        Check.momenta("a break", herd, 1551, 0, 0, 1550, 0, -1);
        RingHerd lower = new RingHerd();
        lower.grain(30, 0, 2, 99);
        lower.grain(30, 0, 3, 99);
        lower.tick(1);
        Check.grain("the lower one is lighter", lower, 0, 29, 720, 1, 0, 1, 1);
        Check.grain("the higher one is heavier", lower, 1, 30, 720, 3, 99, 1, 1);
        Check.grain("half of it is new", lower, 2, 31, 720, 1, 0, 1, 1);
        Check.momenta("halves alike", lower, 250, 0, 0, 250, 0, 0);
        RingHerd alike = new RingHerd();
        alike.grain(30, 0, 7, 99);
        alike.grain(30, 0, 7, 99);
        alike.tick(1);
        Check.due("the lower one of two alike", alike.told(0, 2), 7);
        Check.due("the higher one of two alike", alike.told(1, 2), 3);
        Check.due("the new one", alike.told(2, 2), 4);
        RingHerd dark = new RingHerd();
        dark.grain(30, 0, 7, 99);
        dark.tick(9);
        dark.grain(30, dark.told(0, 1), 8, 99);
        dark.tick(1);
        Check.due("the darkness of the one that broke", dark.told(0, 4), 10);
        Check.due("the new one has its darkness", dark.told(2, 4), 10);
        Check.due("the other one's darkness", dark.told(1, 4), 1);
    }

    private static void breakingOffTheLanes() {
        RingHerd rain = new RingHerd();
        rain.grain(0, 0, 20, 99);
        rain.grain(0, 0, 11, 99);
        rain.tick(1);
        Check.grain("half of it rained", rain, 1, -1, 1800, 5, 0, 0, 0);
        Check.grain("the rest is new", rain, 2, 1, 1800, 6, 0, 1, 1);
        Check.counts("half of it rained", rain, 3, 2, 0, 1, 0, 1, 0);
        Check.sums("half of it rained", rain, 26, 5, 0, 31);
        Check.momenta("half of it rained", rain, 400 + 126, 95, 0, 620, 0, -1);
        RingHerd escape = new RingHerd();
        escape.grain(63, 0, 20, 99);
        escape.grain(63, 0, 11, 99);
        escape.tick(1);
        Check.grain("half of it stays", escape, 1, 62, 433, 5, 0, 1, 1);
        Check.grain("the rest escapes at once", escape, 2, 64, 433, 6, 0, 0, 0);
        Check.counts("the rest escapes", escape, 3, 2, 0, 1, 0, 0, 1);
        Check.sums("the rest escapes", escape, 25, 0, 6, 31);
        Check.momenta("the rest escapes", escape, 1660 + 410, 0, 504, 2573, 0, -1);
    }

    private static void whoDoesNotBreak() {
        RingHerd light = new RingHerd();
        light.grain(30, 0, 1, 99);
        light.grain(30, 0, 10000, 99);
        light.tick(1);
        Check.counts("one of mass 1 does not break", light, 2, 2, 0, 0, 1, 0, 0);
        for (int others = 77; others <= 78; others++) {
            RingHerd full = new RingHerd();
            full.grain(30, 0, 8, 99);
            full.grain(30, 0, 8, 99);
            for (int i = 0; i < others; i++) {
                full.grain(2 * (i % 2), 400 * i, 1, 0);
            }
            full.tick(1);
            Check.counts(others + 2 + " were ever", full, 80, 80, 0, 79 - others - 1, others - 77, 0, 0);
        }
    }

    private static void newGrainMeetsNone() {
        RingHerd herd = new RingHerd();
        herd.grain(30, 0, 20, 99);
        herd.grain(30, 0, 10, 99);
        herd.grain(32, 0, 10, 99);
        herd.tick(1);
        Check.counts("a new one beside another one", herd, 4, 4, 0, 1, 0, 0, 0);
        Check.grain("not met by the new one", herd, 2, 32, 692, 10, 99, 1, 1);
        Check.grain("the new one", herd, 3, 31, 720, 5, 0, 1, 1);
        herd.tick(1);
        Check.counts("a tick later they meet", herd, 6, 6, 0, 3, 0, 0, 0);
    }

    private static void speedsInAClash() {
        // Lanes 10 and 11 have the speeds 1200 and 1161.
        for (int first = 38; first <= 39; first++) {
            for (int lane = 10; lane <= 11; lane++) {
                RingHerd herd = new RingHerd();
                herd.bounds(first, 5000, 100);
                herd.grain(lane, 0, 5, 0);
                herd.grain(21 - lane, 0, 5, 0);
                herd.tick(1);
                Check.counts("a clash of 39, bound " + first, herd, 2, 39 - first == 0 ? 1 : 2, first - 38, 0,
                    39 - first, 0, 0);
            }
        }
        // A flatness of 1000 makes them 1311 and 1265.
        RingHerd flat = new RingHerd();
        flat.flatness(1000);
        flat.bounds(45, 46, 100);
        flat.grain(10, 0, 5, 0);
        flat.grain(11, 0, 5, 0);
        flat.tick(1);
        Check.counts("a clash of 46", flat, 2, 2, 0, 0, 1, 0, 0);
        // A push comes ahead of the meeting, and its unrest counts.
        RingHerd pushed = new RingHerd();
        pushed.bounds(9, 10, 100);
        pushed.grain(30, 0, 5, 0);
        pushed.grain(30, 0, 5, 0);
        pushed.moon(30, 0, 1);
        pushed.tick(1);
        Check.counts("a clash of 10 by pushes", pushed, 2, 2, 0, 0, 1, 0, 0);
        Check.due("in again", pushed.told(0, 0), 30);
        Check.due("out again", pushed.told(1, 0), 32);
    }

    private static void darkening() {
        RingHerd herd = new RingHerd();
        herd.grain(30, 0, 5, 0);
        Check.due("at first", herd.told(0, 4), 0);
        for (int i = 1; i <= 19; i++) {
            herd.tick(50);
            Check.due("darkness", herd.told(0, 4), 50 * i);
        }
        herd.tick(49);
        Check.due("nearly as dark as can be", herd.told(0, 4), 999);
        herd.tick(1);
        Check.due("as dark as can be", herd.told(0, 4), 1000);
        herd.tick(50);
        Check.due("no darker", herd.told(0, 4), 1000);
    }
}
