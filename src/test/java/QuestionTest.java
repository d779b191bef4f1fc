/** Promises 9 to 17: now, told, angle, speed, count, mass, sum, momentum, momentumByLanes. */
public final class QuestionTest {
    private static final int[] FAR = {Integer.MIN_VALUE, Integer.MAX_VALUE};

    public static void main(String[] args) {
        promise09Now();
        promise10Told();
        promise11Angle();
        promise12Speed();
        promise13Count();
        promise14Mass();
        promise15Sum();
        promise16Momentum();
        promise17MomentumByLanes();
        Check.end("QuestionTest");
    }

    private static void promise09Now() {
        RingHerd herd = new RingHerd();
        Check.due("now()", herd.now(), 0);
        herd.grain(0, 0, 1, 0);
        herd.frame();
        Check.due("now() without a tick", herd.now(), 0);
        herd.tick(7);
        Check.due("now() after 7", herd.now(), 7);
        Check.thrownBy(() -> herd.tick(51));
        Check.due("now() after a wrong tick", herd.now(), 7);
    }

    private static void promise10Told() {
        RingHerd herd = new RingHerd();
        herd.grain(30, 100, 44, 6);
        herd.grain(50, 200, 55, 7);
        herd.tick(1);
        Check.grain("a tick later", herd, 0, 30, 820, 44, 6, 1, 1);
        Check.grain("a tick later", herd, 1, 50, 714, 55, 7, 1, 1);
        for (int grain : new int[] {-1, 2, 80, FAR[0], FAR[1]}) {
            Check.wrongNumber(herd, "told(" + grain + ", 0)", () -> herd.told(grain, 0));
            Check.wrongNumber(herd, "told(" + grain + ", 6)", () -> herd.told(grain, 6));
        }
        for (int what : new int[] {-1, 6, FAR[0], FAR[1]}) {
            Check.wrongArgument(herd, "told(0, " + what + ")", () -> herd.told(0, what));
        }
    }

    private static void promise11Angle() {
        RingHerd herd = new RingHerd();
        herd.moon(30, 35999, 1);
        herd.moon(40, 12, 1);
        Check.due("angle(0)", herd.angle(0), 35999);
        herd.tick(2);
        Check.due("angle(0) later", herd.angle(0), 1439);
        Check.due("angle(1) later", herd.angle(1), 1212);
        for (int moon : new int[] {-1, 2, 6, FAR[0], FAR[1]}) {
            Check.wrongNumber(herd, "angle(" + moon + ")", () -> herd.angle(moon));
        }
    }

    private static void promise12Speed() {
        RingHerd herd = new RingHerd();
        int[][] laneAndSpeeds = {{0, 1800, 2050, 1801}, {1, 1714, 1940, 1715}, {10, 1200, 1311, 1200},
            {16, 1000, 1077, 1000}, {30, 720, 760, 720}, {63, 433, 447, 433}};
        for (int[] row : laneAndSpeeds) {
            herd.flatness(0);
            Check.due("speed(" + row[0] + ")", herd.speed(row[0]), row[1]);
            herd.flatness(1000);
            Check.due("speed(" + row[0] + ") at 1000", herd.speed(row[0]), row[2]);
            // 5 * 100 / 400 is 1, and 5 * 100 / 441 is 1.
            herd.flatness(5);
            Check.due("speed(" + row[0] + ") at 5", herd.speed(row[0]), row[3]);
        }
        for (int lane : new int[] {-1, 64, -20, FAR[0], FAR[1]}) {
            Check.wrongArgument(herd, "speed(" + lane + ")", () -> herd.speed(lane));
        }
    }

    /** One of everything: a stick, a break, a bump, a rain and an escape, all in lanes far apart. */
    private static RingHerd oneOfEach() {
        RingHerd herd = new RingHerd();
        herd.grain(10, 0, 4, 0);
        herd.grain(10, 0, 5, 0);
        herd.grain(20, 0, 30, 60);
        herd.grain(20, 0, 7, 60);
        herd.grain(30, 0, 11, 30);
        herd.grain(30, 0, 12, 30);
        herd.grain(0, 0, 8, 0);
        herd.grain(63, 0, 9, 0);
        herd.moon(0, 0, 1);
        herd.moon(63, 0, 1);
        herd.moon(2, 0, 1600);
        return herd;
    }

    private static void promise13Count() {
        RingHerd herd = oneOfEach();
        Check.counts("ahead of the tick", herd, 8, 8, 0, 0, 0, 0, 0);
        herd.tick(1);
        // The grain of lane 0 is pushed out by moon 0, and back by moon 2.
        Check.counts("after the tick", herd, 9, 7, 1, 1, 1, 0, 1);
        Check.due("lane of grain 6", herd.told(6, 0), 0);
        herd.moon(1, 1800, 400);
        herd.tick(1);
        // Out by moon 0, in by moon 2, and in once more by the new moon of lane 1.
        Check.due("lane of grain 6 then", herd.told(6, 0), -1);
        Check.due("rained", herd.count(5), 1);
        for (int what : new int[] {-1, 7, FAR[0], FAR[1]}) {
            Check.wrongArgument(herd, "count(" + what + ")", () -> herd.count(what));
        }
    }

    private static void promise14Mass() {
        RingHerd herd = oneOfEach();
        herd.grain(10, 20000, 1000, 0);
        Check.due("mass(10)", herd.mass(10), 1009);
        Check.due("mass(9)", herd.mass(9), 0);
        Check.due("mass(0)", herd.mass(0), 8);
        Check.due("mass(63)", herd.mass(63), 9);
        herd.tick(1);
        Check.due("mass(10) of two stuck and one more", herd.mass(10), 1009);
        Check.due("mass(63) of none", herd.mass(63), 0);
        Check.due("mass(19) of the broken one", herd.mass(19), 3);
        Check.due("mass(20) of the other one", herd.mass(20), 30);
        Check.due("mass(21) of the new one", herd.mass(21), 4);
        Check.due("mass(29) of a bump", herd.mass(29), 11);
        Check.due("mass(31) of a bump", herd.mass(31), 12);
        for (int lane : new int[] {-1, 64, FAR[0], FAR[1]}) {
            Check.wrongArgument(herd, "mass(" + lane + ")", () -> herd.mass(lane));
        }
    }

    private static void promise15Sum() {
        RingHerd herd = oneOfEach();
        Check.sums("ahead of the tick", herd, 86, 0, 0, 86);
        herd.tick(1);
        Check.sums("after the tick", herd, 77, 0, 9, 86);
        herd.grain(0, 18000, 100, 40);
        herd.grain(0, 18000, 200, 40);
        herd.tick(1);
        Check.sums("after a rain", herd, 277, 100, 9, 386);
        for (int what : new int[] {-1, 4, FAR[0], FAR[1]}) {
            Check.wrongArgument(herd, "sum(" + what + ")", () -> herd.sum(what));
        }
        RingHerd heavy = new RingHerd();
        for (int i = 0; i < 80; i++) {
            heavy.grain(63, 0, 10000, 0);
        }
        Check.sums("as heavy as can be", heavy, 800000, 0, 0, 800000);
        Check.due("one lane as heavy as can be", heavy.mass(63), 800000);
        Check.momenta("as heavy as can be", heavy, 66400000, 0, 0, 66400000, 0, 0);
    }

    private static void promise16Momentum() {
        RingHerd herd = oneOfEach();
        long put = 9 * 30 + 37 * 40 + 23 * 50 + 8 * 20 + 9 * 83;
        Check.momenta("ahead of the tick", herd, put, 0, 0, put, 0, 0);
        herd.tick(1);
        // The break: 3 in and 4 out; the bump: 11 in and 12 out; moons gave 9, and 8, less 8.
        Check.momenta("after the tick", herd, put - 9 * 83 + 1 + 1, 0, 9 * 84, put, 9, -2);
        for (int what : new int[] {-1, 6, FAR[0], FAR[1]}) {
            Check.wrongArgument(herd, "momentum(" + what + ")", () -> herd.momentum(what));
        }
    }

    private static void promise17MomentumByLanes() {
        RingHerd herd = new RingHerd();
        Check.due("of none", herd.momentumByLanes(), 0);
        herd.grain(0, 0, 10, 0);
        Check.due("of lane 0", herd.momentumByLanes(), 200);
        herd.grain(63, 0, 3, 0);
        herd.grain(63, 18000, 2, 0);
        Check.due("of lanes 0 and 63", herd.momentumByLanes(), 200 + 415);
        herd.moon(30, 0, 10000);
        Check.due("no moon's", herd.momentumByLanes(), 200 + 415);
        herd.moon(63, 0, 1);
        herd.tick(1);
        Check.due("without the one that escaped", herd.momentumByLanes(), 200 + 166);
    }
}
