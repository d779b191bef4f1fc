/** Promises 2 to 5: grain, moon, flatness, bounds. */
public final class PuttingTest {
    private static final int LEAST = Integer.MIN_VALUE;
    private static final int MOST = Integer.MAX_VALUE;

    public static void main(String[] args) {
        promise02Grain();
        promise02Eighty();
        promise03Moon();
        promise03Six();
        promise04Flatness();
        promise05Bounds();
        promise05WhatTheyAreAtFirst();
        Check.end("PuttingTest");
    }

    private static void promise02Grain() {
        RingHerd herd = new RingHerd();
        Check.due("grain(0, 0, 1, 0)", herd.grain(0, 0, 1, 0), 0);
        Check.due("grain(63, 35999, 10000, 99)", herd.grain(63, 35999, 10000, 99), 1);
        Check.due("grain(17, 4321, 250, 33)", herd.grain(17, 4321, 250, 33), 2);
        Check.due("the same once more", herd.grain(17, 4321, 250, 33), 3);
        Check.grain("as put", herd, 0, 0, 0, 1, 0, 0, 1);
        Check.grain("as put", herd, 1, 63, 35999, 10000, 99, 0, 1);
        Check.grain("as put", herd, 2, 17, 4321, 250, 33, 0, 1);
        Check.grain("as put", herd, 3, 17, 4321, 250, 33, 0, 1);
        Check.counts("as put", herd, 4, 4, 0, 0, 0, 0, 0);
        Check.sums("as put", herd, 10501, 0, 0, 10501);
        Check.momenta("as put", herd, 20 + 830000 + 500 * 37, 0, 0, 20 + 830000 + 500 * 37, 0, 0);
        wrongGrains(herd, "IllegalArgumentException");
    }

    private static void wrongGrains(RingHerd herd, String exception) {
        for (int lane : new int[] {-1, 64, LEAST, MOST}) {
            Check.refused(herd, exception, "grain in lane " + lane, () -> herd.grain(lane, 0, 1, 0));
        }
        for (int angle : new int[] {-1, 36000, LEAST, MOST}) {
            Check.refused(herd, exception, "grain at angle " + angle, () -> herd.grain(0, angle, 1, 0));
        }
        for (int mass : new int[] {0, -1, 10001, LEAST, MOST}) {
            Check.refused(herd, exception, "grain of mass " + mass, () -> herd.grain(0, 0, mass, 0));
        }
        for (int unrest : new int[] {-1, 100, LEAST, MOST}) {
            Check.refused(herd, exception, "grain of unrest " + unrest, () -> herd.grain(0, 0, 1, unrest));
        }
    }

    private static void promise02Eighty() {
        RingHerd herd = new RingHerd();
        for (int i = 0; i < 80; i++) {
            Check.due("grain " + i, herd.grain(20 + i % 3, 0, 5, 0), i);
        }
        Check.wrongState(herd, "grain 80", () -> herd.grain(20, 0, 5, 0));
        wrongGrains(herd, "IllegalArgumentException");
        herd.tick(1);
        Check.due("some are gone", herd.count(1) < 80, true);
        Check.wrongState(herd, "grain 80, when some are gone", () -> herd.grain(20, 0, 5, 0));
    }

    private static void promise03Moon() {
        RingHerd herd = new RingHerd();
        Check.due("moon(0, 0, 1)", herd.moon(0, 0, 1), 0);
        Check.due("moon(63, 35999, 10000)", herd.moon(63, 35999, 10000), 1);
        Check.due("moon(5, 700, 30)", herd.moon(5, 700, 30), 2);
        Check.due("angle(0)", herd.angle(0), 0);
        Check.due("angle(1)", herd.angle(1), 35999);
        Check.due("angle(2)", herd.angle(2), 700);
        Check.counts("moons alone", herd, 0, 0, 0, 0, 0, 0, 0);
        Check.sums("moons alone", herd, 0, 0, 0, 0);
        Check.due("a moon is no grain", herd.mass(63), 0);
        wrongMoons(herd);
    }

    private static void wrongMoons(RingHerd herd) {
        for (int lane : new int[] {-1, 64, LEAST, MOST}) {
            Check.wrongArgument(herd, "moon in lane " + lane, () -> herd.moon(lane, 0, 1));
        }
        for (int angle : new int[] {-1, 36000, LEAST, MOST}) {
            Check.wrongArgument(herd, "moon at angle " + angle, () -> herd.moon(0, angle, 1));
        }
        for (int mass : new int[] {0, -1, 10001, LEAST, MOST}) {
            Check.wrongArgument(herd, "moon of mass " + mass, () -> herd.moon(0, 0, mass));
        }
    }

    private static void promise03Six() {
        RingHerd herd = new RingHerd();
        for (int i = 0; i < 6; i++) {
            Check.due("moon " + i, herd.moon(i, i, i + 1), i);
        }
        Check.wrongState(herd, "moon 6", () -> herd.moon(0, 0, 1));
        wrongMoons(herd);
    }

    private static void promise04Flatness() {
        RingHerd herd = new RingHerd();
        Check.due("flatness(1000)", herd.flatness(1000), 0);
        Check.due("flatness(7)", herd.flatness(7), 1000);
        Check.wrongArgument(herd, "flatness(-1)", () -> herd.flatness(-1));
        Check.wrongArgument(herd, "flatness(1001)", () -> herd.flatness(1001));
        Check.wrongArgument(herd, "flatness(least)", () -> herd.flatness(LEAST));
        Check.wrongArgument(herd, "flatness(most)", () -> herd.flatness(MOST));
        Check.due("flatness(0)", herd.flatness(0), 7);
        Check.due("flatness(0) again", herd.flatness(0), 0);
    }

    private static void promise05Bounds() {
        RingHerd herd = new RingHerd();
        for (int[] b : new int[][] {{0, 0, 0}, {1000, 1000, 100}, {1000, 5000, 100}, {0, 5000, 50}, {7, 7, 1}}) {
            Check.due("bounds throws", Check.thrownBy(() -> herd.bounds(b[0], b[1], b[2])), "nothing");
        }
        for (int[] b : new int[][] {{-1, 5, 5}, {1001, 2000, 5}, {10, 9, 5}, {10, 5001, 5}, {10, 20, -1},
            {10, 20, 101}, {LEAST, MOST, 0}, {0, LEAST, 0}, {0, MOST, 0}, {0, 0, LEAST}, {0, 0, MOST}}) {
            RingHerd fresh = twoToMeet(0, 50);
            Check.wrongArgument(fresh, "bounds(" + b[0] + ", " + b[1] + ", " + b[2] + ")",
                () -> fresh.bounds(b[0], b[1], b[2]));
            // Bounds are told by a meeting alone: these two bump by the bounds as they are at first.
            fresh.tick(1);
            Check.counts("after wrong bounds", fresh, 2, 2, 0, 0, 1, 0, 0);
            Check.due("unrest after wrong bounds", fresh.told(1, 3), 25);
        }
    }

    /** Two grains of mass 10 in lane 30, at one angle, with these unrests. */
    private static RingHerd twoToMeet(int unrest, int otherUnrest) {
        RingHerd herd = new RingHerd();
        herd.grain(30, 0, 10, unrest);
        herd.grain(30, 0, 10, otherUnrest);
        return herd;
    }

    private static void promise05WhatTheyAreAtFirst() {
        RingHerd sticks = twoToMeet(9, 11);
        sticks.tick(1);
        Check.counts("a clash of 20", sticks, 2, 1, 1, 0, 0, 0, 0);
        RingHerd bumps = twoToMeet(9, 12);
        bumps.tick(1);
        Check.counts("a clash of 21", bumps, 2, 2, 0, 0, 1, 0, 0);
        Check.due("9 by a spring of 50", bumps.told(0, 3), 4);
        Check.due("12 by a spring of 50", bumps.told(1, 3), 6);
        RingHerd stillBumps = twoToMeet(40, 40);
        stillBumps.tick(1);
        Check.counts("a clash of 80", stillBumps, 2, 2, 0, 0, 1, 0, 0);
        RingHerd springs = twoToMeet(99, 98);
        springs.bounds(20, 5000, 50);
        springs.tick(1);
        RingHerd asAtFirst = new RingHerd();
        asAtFirst.grain(30, 0, 1, 99);
        asAtFirst.grain(30, 0, 1, 98);
        asAtFirst.tick(1);
        Check.due("99 by the spring as it is at first", asAtFirst.told(0, 3), 49);
        Check.due("98 by the spring as it is at first", asAtFirst.told(1, 3), 49);
        Check.due("99 by the same spring", springs.told(0, 3), 49);
        RingHerd breaks = twoToMeet(40, 41);
        breaks.tick(1);
        Check.counts("a clash of 81", breaks, 3, 3, 0, 1, 0, 0, 0);
    }
}
