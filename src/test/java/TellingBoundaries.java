/** The boundary cases of the promises 1 to 8: a new object, and the calls that tell. */
final class TellingBoundaries {
    private static final int LEAST = Sentence.LEAST;
    private static final int MOST = Sentence.MOST;

    private TellingBoundaries() {
    }

    static void all() {
        Sentence.promise(1, "No grains, no moons, the tick 0.", TellingBoundaries::newObject);
        promise2();
        promise3();
        promise4();
        promise5();
        promise6();
        promise7();
        promise8();
    }

    private static void newObject() {
        RingHerd herd = new RingHerd();
        Check.due("now()", herd.now(), 0);
        Check.counts("new", herd, 0, 0, 0, 0, 0, 0, 0);
        Check.sums("new", herd, 0, 0, 0, 0);
        Check.momenta("new", herd, 0, 0, 0, 0, 0, 0);
        Check.due("gaps()", herd.gaps(), 0);
        Check.due("mass(0)", herd.mass(0), 0);
        Check.due("mass(63)", herd.mass(63), 0);
        Check.due("the flatness", herd.flatness(0), 0);
        Check.throwsJust(Sentence.NUMBER, "told(0, 0)", () -> herd.told(0, 0));
        Check.throwsJust(Sentence.NUMBER, "angle(0)", () -> herd.angle(0));
        Check.throwsJust(Sentence.NUMBER, "resonance(0, 0)", () -> herd.resonance(0, 0));
        Check.throwsJust(Sentence.NUMBER, "gap(0, 0)", () -> herd.gap(0, 0));
        Check.throwsJust(Sentence.NUMBER, "framed(0, 0)", () -> herd.framed(0, 0));
        Check.throwsJust(Sentence.NUMBER, "holds(0, NONE)", () -> herd.holds(0, RingHerd.NONE));
        Check.throwsJust(Sentence.NUMBER, "disputes(0)", () -> herd.disputes(0));
        Check.throwsJust(Sentence.NUMBER, "claim(0, 0, 0, 0)", () -> herd.claim(0, 0, 0, 0));
        Check.due("a tick of nothing", herd.tick(50), 50);
        Check.counts("nothing came", herd, 0, 0, 0, 0, 0, 0, 0);
    }

    private static void promise2() {
        Sentence.promise(2, "@param lane 0 to 63", () -> {
            grainIsPut(0, 0, 1, 0);
            grainIsPut(63, 0, 1, 0);
            grainIsRefused(-1, 0, 1, 0);
            grainIsRefused(64, 0, 1, 0);
        });
        Sentence.promise(2, "@param angle 0 to 35999", () -> {
            grainIsPut(30, 0, 1, 0);
            grainIsPut(30, 35999, 1, 0);
            grainIsRefused(30, -1, 1, 0);
            grainIsRefused(30, 36000, 1, 0);
        });
        Sentence.promise(2, "@param mass 1 to 10000", () -> {
            grainIsPut(30, 0, 1, 0);
            grainIsPut(30, 0, 10000, 0);
            grainIsRefused(30, 0, 0, 0);
            grainIsRefused(30, 0, -1, 0);
            grainIsRefused(30, 0, 10001, 0);
        });
        Sentence.promise(2, "@param unrest 0 to 99", () -> {
            grainIsPut(30, 0, 1, 0);
            grainIsPut(30, 0, 1, 99);
            grainIsRefused(30, 0, 1, -1);
            grainIsRefused(30, 0, 1, 100);
        });
        Sentence.promise(2, "@return its number", () -> {
            RingHerd herd = new RingHerd();
            for (int i = 0; i < 80; i++) {
                Check.due("grain", herd.grain(30, 0, 1, 0), i);
            }
        });
        Sentence.promise(2, "@throws IllegalArgumentException if an argument is out of its range", () -> {
            for (int far : new int[] {LEAST, MOST}) {
                grainIsRefused(far, 0, 1, 0);
                grainIsRefused(0, far, 1, 0);
                grainIsRefused(0, 0, far, 0);
                grainIsRefused(0, 0, 1, far);
                grainIsRefused(far, far, far, far);
            }
        });
        Sentence.promise(2, "@throws IllegalStateException if there were 80", () -> {
            RingHerd herd = new RingHerd();
            for (int i = 0; i < 79; i++) {
                herd.grain(30, 0, 1, 0);
            }
            Check.due("the 80th", herd.grain(30, 0, 1, 0), 79);
            Check.throwsJust(Sentence.STATE, "the 81st", () -> herd.grain(30, 0, 1, 0));
            herd.tick(7);
            Check.due("one is left", herd.count(1), 1);
            Check.throwsJust(Sentence.STATE, "the 81st, with one left", () -> herd.grain(30, 0, 1, 0));
        });
    }

    private static void grainIsPut(int lane, int angle, int mass, int unrest) {
        RingHerd herd = new RingHerd();
        Check.due("grain", herd.grain(lane, angle, mass, unrest), 0);
        Check.grain("as put", herd, 0, lane, angle, mass, unrest, 0, 1);
    }

    private static void grainIsRefused(int lane, int angle, int mass, int unrest) {
        RingHerd herd = new RingHerd();
        String call = "grain(" + lane + ", " + angle + ", " + mass + ", " + unrest + ")";
        Check.throwsJust(Sentence.ARGUMENT, call, () -> herd.grain(lane, angle, mass, unrest));
    }

    private static void promise3() {
        Sentence.promise(3, "@param lane 0 to 63", () -> {
            moonIsPut(0, 0, 1);
            moonIsPut(63, 0, 1);
            moonIsRefused(-1, 0, 1);
            moonIsRefused(64, 0, 1);
        });
        Sentence.promise(3, "@param angle 0 to 35999", () -> {
            moonIsPut(30, 0, 1);
            moonIsPut(30, 35999, 1);
            moonIsRefused(30, -1, 1);
            moonIsRefused(30, 36000, 1);
        });
        Sentence.promise(3, "@param mass 1 to 10000", () -> {
            moonIsPut(30, 0, 1);
            moonIsPut(30, 0, 10000);
            moonIsRefused(30, 0, 0);
            moonIsRefused(30, 0, -1);
            moonIsRefused(30, 0, 10001);
        });
        Sentence.promise(3, "@return its number", () -> {
            RingHerd herd = new RingHerd();
            for (int i = 0; i < 6; i++) {
                Check.due("moon", herd.moon(30, 0, 1), i);
            }
        });
        Sentence.promise(3, "@throws IllegalArgumentException if an argument is out of its range", () -> {
            for (int far : new int[] {LEAST, MOST}) {
                moonIsRefused(far, 0, 1);
                moonIsRefused(0, far, 1);
                moonIsRefused(0, 0, far);
                moonIsRefused(far, far, far);
            }
        });
        Sentence.promise(3, "@throws IllegalStateException if there are 6", () -> {
            RingHerd herd = new RingHerd();
            for (int i = 0; i < 5; i++) {
                herd.moon(30, 0, 1);
            }
            Check.due("the 6th", herd.moon(30, 0, 1), 5);
            Check.throwsJust(Sentence.STATE, "the 7th", () -> herd.moon(30, 0, 1));
        });
    }

    private static void moonIsPut(int lane, int angle, int mass) {
        RingHerd herd = new RingHerd();
        Check.due("moon", herd.moon(lane, angle, mass), 0);
        Check.due("its angle", herd.angle(0), angle);
        herd.tick(1);
        Check.due("its angle by its lane", herd.angle(0), (angle + 36000 / (lane + 20)) % 36000);
    }

    private static void moonIsRefused(int lane, int angle, int mass) {
        RingHerd herd = new RingHerd();
        String call = "moon(" + lane + ", " + angle + ", " + mass + ")";
        Check.throwsJust(Sentence.ARGUMENT, call, () -> herd.moon(lane, angle, mass));
    }

    private static void promise4() {
        Sentence.promise(4, "@param flatness 0 to 1000", () -> {
            RingHerd herd = new RingHerd();
            herd.flatness(1000);
            Check.due("speed(0) by 1000", herd.speed(0), 2050);
            herd.flatness(0);
            Check.due("speed(0) by 0", herd.speed(0), 1800);
            Check.throwsJust(Sentence.ARGUMENT, "flatness(-1)", () -> herd.flatness(-1));
            Check.throwsJust(Sentence.ARGUMENT, "flatness(1001)", () -> herd.flatness(1001));
        });
        Sentence.promise(4, "@return the one before", () -> {
            RingHerd herd = new RingHerd();
            Check.due("at first", herd.flatness(7), 0);
            Check.due("7", herd.flatness(7), 7);
            Check.due("7 again", herd.flatness(1000), 7);
            Check.due("1000", herd.flatness(0), 1000);
        });
        Sentence.promise(4, "@throws IllegalArgumentException if flatness is out of its range", () -> {
            RingHerd herd = new RingHerd();
            for (int flatness : new int[] {LEAST, -1, 1001, MOST}) {
                Check.throwsJust(Sentence.ARGUMENT, "flatness(" + flatness + ")", () -> herd.flatness(flatness));
            }
        });
    }

    private static void promise5() {
        Sentence.promise(5, "@param first 0 to 1000: the first bound", () -> {
            Check.counts("a clash of 1 by 0", byBounds(0, 5000, 50, 1), 2, 2, 0, 0, 1, 0, 0);
            Check.counts("a clash of 99 by 1000", byBounds(1000, 5000, 50, 99), 2, 1, 1, 0, 0, 0, 0);
            boundsAreRefused(-1, 100, 50);
            boundsAreRefused(1001, 5000, 50);
        });
        Sentence.promise(5, "@param second first to 5000: the second one", () -> {
            Check.counts("a clash of 31 by 30", byBounds(30, 30, 50, 31), 3, 3, 0, 1, 0, 0, 0);
            Check.counts("a clash of 99 by 5000", byBounds(30, 5000, 50, 99), 2, 2, 0, 0, 1, 0, 0);
            Check.counts("a clash of 1 by 0", byBounds(0, 0, 50, 1), 3, 3, 0, 1, 0, 0, 0);
            Check.counts("a clash of 99 by 1000", byBounds(1000, 1000, 50, 99), 2, 1, 1, 0, 0, 0, 0);
            boundsAreRefused(30, 29, 50);
            boundsAreRefused(30, -1, 50);
            boundsAreRefused(30, 5001, 50);
        });
        Sentence.promise(5, "@param spring 0 to 100", () -> {
            Check.due("99 by 0", byBounds(30, 5000, 0, 99).told(0, 3), 0);
            Check.due("99 by 100", byBounds(30, 5000, 100, 99).told(0, 3), 99);
            boundsAreRefused(30, 60, -1);
            boundsAreRefused(30, 60, 101);
        });
        Sentence.promise(5, "@throws IllegalArgumentException if an argument is out of its range", () -> {
            for (int far : new int[] {LEAST, MOST}) {
                boundsAreRefused(far, 5000, 50);
                boundsAreRefused(30, far, 50);
                boundsAreRefused(30, 60, far);
                boundsAreRefused(far, far, far);
            }
        });
    }

    /** Two grains of mass 5 that meet by these bounds, one of them with an unrest, the other one without. */
    private static RingHerd byBounds(int first, int second, int spring, int unrest) {
        RingHerd herd = new RingHerd();
        Check.due("bounds throws", Check.thrownBy(() -> herd.bounds(first, second, spring)), "nothing");
        herd.grain(30, 0, 5, unrest);
        herd.grain(30, 0, 5, 0);
        herd.tick(1);
        return herd;
    }

    private static void boundsAreRefused(int first, int second, int spring) {
        RingHerd herd = new RingHerd();
        String call = "bounds(" + first + ", " + second + ", " + spring + ")";
        Check.throwsJust(Sentence.ARGUMENT, call, () -> herd.bounds(first, second, spring));
    }

    private static void promise6() {
        Sentence.promise(6, "@param ticks 1 to 50", () -> {
            Check.due("tick(1)", new RingHerd().tick(1), 1);
            Check.due("tick(50)", new RingHerd().tick(50), 50);
            Check.throwsJust(Sentence.ARGUMENT, "tick(0)", () -> new RingHerd().tick(0));
            Check.throwsJust(Sentence.ARGUMENT, "tick(51)", () -> new RingHerd().tick(51));
        });
        Sentence.promise(6, "@return the tick then", () -> {
            RingHerd herd = new RingHerd();
            herd.grain(30, 0, 5, 0);
            Check.due("tick(1)", herd.tick(1), 1);
            Check.due("one went by", herd.told(0, 4), 1);
            Check.due("tick(50)", herd.tick(50), 51);
            Check.due("50 more went by", herd.told(0, 4), 51);
            Check.due("now()", herd.now(), 51);
        });
        Sentence.promise(6, "@throws IllegalArgumentException if ticks is out of its range", () -> {
            RingHerd herd = new RingHerd();
            for (int ticks : new int[] {LEAST, -1, 0, 51, 2001, MOST}) {
                Check.throwsJust(Sentence.ARGUMENT, "tick(" + ticks + ")", () -> herd.tick(ticks));
            }
        });
        Sentence.promise(6, "@throws IllegalStateException if it would be above 2000", () -> {
            RingHerd herd = new RingHerd();
            for (int i = 0; i < 39; i++) {
                herd.tick(50);
            }
            Check.due("tick(1)", herd.tick(1), 1951);
            Check.throwsJust(Sentence.STATE, "tick(50) at 1951", () -> herd.tick(50));
            Check.due("tick(49) at 1951", herd.tick(49), 2000);
            Check.throwsJust(Sentence.STATE, "tick(1) at 2000", () -> herd.tick(1));
            Check.throwsJust(Sentence.STATE, "tick(50) at 2000", () -> herd.tick(50));
            RingHerd whole = new RingHerd();
            for (int i = 1; i <= 40; i++) {
                Check.due("tick(50)", whole.tick(50), 50 * i);
            }
        });
    }

    private static void promise7() {
        Sentence.promise(7, "@return its number", () -> {
            RingHerd herd = new RingHerd();
            for (int i = 0; i < 20; i++) {
                Check.due("frame()", herd.frame(), i);
            }
        });
        Sentence.promise(7, "@throws IllegalStateException if there are 20", () -> {
            RingHerd herd = new RingHerd();
            for (int i = 0; i < 19; i++) {
                herd.frame();
            }
            Check.due("the 20th", herd.frame(), 19);
            Check.throwsJust(Sentence.STATE, "the 21st", herd::frame);
            herd.tick(1);
            Check.throwsJust(Sentence.STATE, "the 21st, a tick later", herd::frame);
        });
    }

    private static void promise8() {
        Sentence.promise(8, "@param frame its number", () -> {
            RingHerd herd = framed();
            Check.due("of frame 0", herd.claim(0, 0, 63, 5), 0);
            Check.due("of frame 1", herd.claim(1, 0, 63, 5), 1);
            Check.due("frame 0 has 5", herd.holds(0, RingHerd.NONE), true);
            Check.due("frame 1 has 6", herd.holds(1, RingHerd.NONE), false);
        });
        Sentence.promise(8, "@param from 0 to 63", () -> {
            claimIsMade(0, 0);
            claimIsMade(63, 63);
            claimIsRefused(-1, 63, 0);
            claimIsRefused(-1, -1, 0);
            claimIsRefused(64, 63, 0);
            claimIsRefused(64, 64, 0);
        });
        Sentence.promise(8, "@param to from to 63, the last lane", () -> {
            claimIsMade(0, 63);
            claimIsMade(30, 30);
            claimIsMade(30, 63);
            claimIsRefused(30, 29, 0);
            claimIsRefused(30, -1, 0);
            claimIsRefused(0, -1, 0);
            claimIsRefused(30, 64, 0);
        });
        Sentence.promise(8, "@param most 0 to 1000000: the mass", () -> {
            RingHerd herd = framed();
            Check.due("0", herd.claim(1, 0, 63, 0), 0);
            Check.due("1000000", herd.claim(1, 0, 63, 1000000), 1);
            Check.due("no lane has any", herd.holds(0, RingHerd.NONE), false);
            Check.due("no lane has more", herd.holds(1, RingHerd.NONE), true);
            claimIsRefused(0, 63, -1);
            claimIsRefused(0, 63, 1000001);
        });
        Sentence.promise(8, "@return its number", () -> {
            RingHerd herd = framed();
            for (int i = 0; i < 40; i++) {
                Check.due("claim", herd.claim(0, 0, 0, 0), i);
            }
        });
        Sentence.promise(8, "@throws IndexOutOfBoundsException if there is no such frame", () -> {
            RingHerd herd = framed();
            for (int frame : new int[] {LEAST, -2, -1, 2, 19, 20, MOST}) {
                Check.throwsJust(Sentence.NUMBER, "frame " + frame, () -> herd.claim(frame, 0, 0, 0));
            }
            RingHerd none = new RingHerd();
            Check.throwsJust(Sentence.NUMBER, "frame 0 of none", () -> none.claim(0, 0, 0, 0));
        });
        Sentence.promise(8, "@throws IllegalArgumentException if another argument is out of its range", () -> {
            for (int far : new int[] {LEAST, MOST}) {
                claimIsRefused(far, 63, 0);
                claimIsRefused(0, far, 0);
                claimIsRefused(0, 63, far);
                claimIsRefused(far, far, far);
            }
        });
        Sentence.promise(8, "@throws IllegalStateException if there are 40", () -> {
            RingHerd herd = framed();
            for (int i = 0; i < 39; i++) {
                herd.claim(0, 0, 0, 0);
            }
            Check.due("the 40th", herd.claim(0, 0, 0, 0), 39);
            Check.throwsJust(Sentence.STATE, "the 41st", () -> herd.claim(0, 0, 0, 0));
            Check.throwsJust(Sentence.STATE, "the 41st, of another frame", () -> herd.claim(1, 0, 0, 0));
        });
    }

    /** Two frames: 5 in lane 30, then 6. */
    private static RingHerd framed() {
        RingHerd herd = new RingHerd();
        herd.grain(30, 0, 5, 0);
        herd.frame();
        herd.grain(30, 0, 1, 0);
        herd.frame();
        return herd;
    }

    private static void claimIsMade(int from, int to) {
        RingHerd herd = new RingHerd();
        herd.grain(from, 0, 5, 0);
        herd.frame();
        herd.grain(to, 0, 5, 0);
        herd.frame();
        Check.due("claim from " + from + " to " + to, herd.claim(0, from, to, 4), 0);
        Check.due("its first lane has 5", herd.holds(0, 0), false);
        Check.due("its last lane has 5", herd.holds(0, 1), false);
    }

    private static void claimIsRefused(int from, int to, int most) {
        RingHerd herd = framed();
        String call = "claim(0, " + from + ", " + to + ", " + most + ")";
        Check.throwsJust(Sentence.ARGUMENT, call, () -> herd.claim(0, from, to, most));
    }
}
