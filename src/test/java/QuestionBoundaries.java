/** The boundary cases of the promises 9 to 23: the questions. */
final class QuestionBoundaries {
    private static final int NONE = RingHerd.NONE;
    private static final int LEAST = Sentence.LEAST;
    private static final int MOST = Sentence.MOST;
    private static final int[] WRONG_LANES = {LEAST, -20, -1, 64, MOST};

    private QuestionBoundaries() {
    }

    static void all() {
        Sentence.promise(9, "Returns the tick.", QuestionBoundaries::now);
        promise10();
        promise11();
        promise12();
        promise13();
        promise14();
        promise15();
        promise16();
        Sentence.promise(17, "Returns the momentum of all grains that are there, found by the lanes and their masses.",
            QuestionBoundaries::momentumByLanes);
        promise18();
        promise19();
        Sentence.promise(20, "Returns how many gaps there are.", QuestionBoundaries::gaps);
        promise21();
        promise22();
        promise23();
    }

    private interface Question {
        void ask(int number);
    }

    private static void each(String exception, String name, int[] numbers, Question question) {
        for (int number : numbers) {
            Check.throwsJust(exception, name + " of " + number, () -> question.ask(number));
        }
    }

    private static void now() {
        RingHerd herd = new RingHerd();
        Check.due("at first", herd.now(), 0);
        herd.tick(1);
        Check.due("after the first", herd.now(), 1);
        Check.throwsJust(Sentence.ARGUMENT, "tick(0)", () -> herd.tick(0));
        Check.due("after a refused one", herd.now(), 1);
        herd.tick(49);
        for (int i = 0; i < 39; i++) {
            herd.tick(50);
        }
        Check.due("after the last", herd.now(), 2000);
        Check.throwsJust(Sentence.STATE, "tick(1)", () -> herd.tick(1));
        Check.due("after one more was refused", herd.now(), 2000);
    }

    /** In one tick: 1 sticks to 0, 2 rains, 3 escapes, 5 breaks and 6 is new, 7 and 8 bump. */
    private static RingHerd oneOfEach() {
        RingHerd herd = new RingHerd();
        herd.moon(1, 0, 400);
        herd.moon(63, 0, 1);
        herd.grain(20, 0, 4, 0);
        herd.grain(20, 0, 5, 0);
        herd.grain(0, 0, 8, 0);
        herd.grain(63, 0, 9, 0);
        herd.grain(30, 0, 30, 60);
        herd.grain(30, 0, 7, 60);
        herd.grain(40, 0, 11, 30);
        herd.grain(40, 0, 12, 30);
        herd.tick(1);
        return herd;
    }

    private static void promise10() {
        Sentence.promise(10, "@param grain its number", () -> {
            RingHerd herd = Refusals.full();
            Check.due("the first one", herd.told(0, 2), 5);
            Check.due("the last one", herd.told(79, 2), 84);
        });
        Sentence.promise(10, "@param what 0 its lane, 1 its angle, 2 its mass, 3 its unrest, 4 its darkness", () -> {
            RingHerd herd = new RingHerd();
            herd.grain(63, 35999, 10000, 99);
            herd.grain(0, 0, 1, 0);
            Check.grain("the most", herd, 0, 63, 35999, 10000, 99, 0, 1);
            Check.grain("the least", herd, 1, 0, 0, 1, 0, 0, 1);
            herd.tick(1);
            Check.grain("a tick later", herd, 0, 63, 432, 10000, 99, 1, 1);
        });
        Sentence.promise(10, "as it was last, if it is gone", () -> {
            RingHerd herd = oneOfEach();
            herd.tick(3);
            Check.grain("one that stuck", herd, 1, 20, 900, 5, 0, 0, 0);
            Check.grain("one that rained", herd, 2, -1, 1800, 8, 5, 0, 0);
            Check.grain("one that escaped", herd, 3, 64, 433, 9, 5, 0, 0);
        });
        Sentence.promise(10, "the lane being -1 or 64, if it rained or escaped", () -> {
            RingHerd herd = oneOfEach();
            Check.due("one that rained", herd.told(2, 0), -1);
            Check.due("one that escaped", herd.told(3, 0), 64);
        });
        Sentence.promise(10, "5 whether it is there, 1 or 0", () -> {
            RingHerd herd = oneOfEach();
            int[] there = {1, 0, 0, 0, 1, 1, 1, 1, 1};
            for (int i = 0; i < there.length; i++) {
                Check.due("grain " + i, herd.told(i, 5), there[i]);
            }
        });
        Sentence.promise(10, "@return as told", () -> {
            RingHerd herd = new RingHerd();
            herd.grain(63, 35999, 10000, 99);
            Check.grain("as told", herd, 0, 63, 35999, 10000, 99, 0, 1);
        });
        Sentence.promise(10, "@throws IndexOutOfBoundsException if there was no such grain", () -> {
            RingHerd herd = oneOfEach();
            Check.due("the last one that was", herd.told(8, 5), 1);
            each(Sentence.NUMBER, "told", new int[] {LEAST, -1, 9, 79, 80, MOST}, i -> herd.told(i, 0));
            RingHerd none = new RingHerd();
            each(Sentence.NUMBER, "told of none", new int[] {-1, 0}, i -> none.told(i, 0));
            RingHerd full = Refusals.full();
            each(Sentence.NUMBER, "told of 80", new int[] {-1, 80}, i -> full.told(i, 0));
        });
        Sentence.promise(10, "@throws IllegalArgumentException if what is out of its range", () -> {
            RingHerd herd = oneOfEach();
            each(Sentence.ARGUMENT, "told(0, what)", new int[] {LEAST, -1, 6, MOST}, i -> herd.told(0, i));
            each(Sentence.ARGUMENT, "told of one that is gone", new int[] {-1, 6}, i -> herd.told(1, i));
        });
    }

    private static void promise11() {
        Sentence.promise(11, "@param moon its number", () -> {
            RingHerd herd = Refusals.full();
            Check.due("the first one", herd.angle(0), 0);
            Check.due("the last one", herd.angle(5), 30000);
        });
        Sentence.promise(11, "@return the hundredths of a degree", () -> {
            RingHerd herd = new RingHerd();
            herd.moon(30, 0, 1);
            herd.moon(30, 35999, 1);
            Check.due("the least", herd.angle(0), 0);
            Check.due("the most", herd.angle(1), 35999);
            herd.tick(50);
            Check.due("a full turn later", herd.angle(0), 0);
            Check.due("a full turn later", herd.angle(1), 35999);
            herd.tick(1);
            Check.due("a tick later", herd.angle(1), 719);
        });
        Sentence.promise(11, "@throws IndexOutOfBoundsException if there is no such moon", () -> {
            RingHerd none = new RingHerd();
            each(Sentence.NUMBER, "angle of none", new int[] {LEAST, -1, 0, 5, 6, MOST}, none::angle);
            none.moon(30, 0, 1);
            each(Sentence.NUMBER, "angle of one", new int[] {-1, 1, 5}, none::angle);
            RingHerd full = Refusals.full();
            each(Sentence.NUMBER, "angle of six", new int[] {LEAST, -1, 6, MOST}, full::angle);
        });
    }

    private static void promise12() {
        Sentence.promise(12, "@param lane 0 to 63", () -> {
            RingHerd herd = new RingHerd();
            Check.due("speed(0)", herd.speed(0), 1800);
            Check.due("speed(63)", herd.speed(63), 433);
            each(Sentence.ARGUMENT, "speed", new int[] {-1, 64}, herd::speed);
        });
        Sentence.promise(12, "@return the hundredths of a degree in a tick", () -> {
            RingHerd herd = new RingHerd();
            for (int flatness = 0; flatness <= 1000; flatness += 500) {
                herd.flatness(flatness);
                for (int lane = 0; lane < 64; lane++) {
                    int radius = lane + 20;
                    int due = 36000 / radius + 100 * flatness / (radius * radius);
                    Check.due("speed(" + lane + ") by " + flatness, herd.speed(lane), due);
                }
            }
        });
        Sentence.promise(12, "@throws IllegalArgumentException if lane is out of its range", () -> {
            RingHerd herd = new RingHerd();
            each(Sentence.ARGUMENT, "speed", WRONG_LANES, herd::speed);
        });
    }

    private static void promise13() {
        Sentence.promise(13, "@param what 0 grains that were ever, 1 those that are there, 2 those that stuck to "
            + "another one, 3 how often one broke, 4 bumps, 5 those that rained, 6 that escaped", () -> {
                Check.counts("of none", new RingHerd(), 0, 0, 0, 0, 0, 0, 0);
                Check.counts("one of each", oneOfEach(), 9, 6, 1, 1, 1, 1, 1);
            });
        Sentence.promise(13, "@return how many", () -> {
            RingHerd herd = new RingHerd();
            for (int i = 0; i < 80; i++) {
                herd.grain(30, 0, 1, 0);
            }
            Check.counts("80 of them", herd, 80, 80, 0, 0, 0, 0, 0);
            herd.tick(1);
            Check.counts("half of them stuck", herd, 80, 40, 40, 0, 0, 0, 0);
            RingHerd rains = new RingHerd();
            rains.moon(1, 0, 400);
            for (int i = 0; i < 80; i++) {
                rains.grain(0, 0, 1, 0);
            }
            rains.tick(1);
            Check.counts("all of them rained", rains, 80, 0, 0, 0, 0, 80, 0);
            RingHerd escapes = new RingHerd();
            escapes.moon(63, 0, 1);
            for (int i = 0; i < 80; i++) {
                escapes.grain(63, 0, 1, 0);
            }
            escapes.tick(1);
            Check.counts("all of them escaped", escapes, 80, 0, 0, 0, 0, 0, 80);
        });
        Sentence.promise(13, "@throws IllegalArgumentException if what is out of its range", () -> {
            RingHerd herd = new RingHerd();
            each(Sentence.ARGUMENT, "count", new int[] {LEAST, -1, 7, MOST}, herd::count);
        });
    }

    private static void promise14() {
        Sentence.promise(14, "@param lane 0 to 63", () -> {
            RingHerd herd = new RingHerd();
            herd.grain(0, 0, 3, 0);
            herd.grain(63, 0, 4, 0);
            Check.due("mass(0)", herd.mass(0), 3);
            Check.due("mass(63)", herd.mass(63), 4);
            each(Sentence.ARGUMENT, "mass", new int[] {-1, 64}, herd::mass);
        });
        Sentence.promise(14, "@return the mass of all grains in it", () -> {
            Check.due("of none", new RingHerd().mass(30), 0);
            RingHerd herd = oneOfEach();
            Check.due("of two that stuck", herd.mass(20), 9);
            Check.due("of one that rained", herd.mass(0), 0);
            Check.due("of one that escaped", herd.mass(63), 0);
            Check.due("of half of one", herd.mass(29), 3);
            Check.due("of the new one", herd.mass(31), 4);
            RingHerd heavy = new RingHerd();
            for (int i = 0; i < 80; i++) {
                heavy.grain(63, 0, 10000, 0);
            }
            Check.due("of as much as can be", heavy.mass(63), 800000);
        });
        Sentence.promise(14, "@throws IllegalArgumentException if lane is out of its range", () -> {
            RingHerd herd = oneOfEach();
            each(Sentence.ARGUMENT, "mass", WRONG_LANES, herd::mass);
        });
    }

    private static void promise15() {
        Sentence.promise(15, "@param what 0 of all grains that are there, 1 of those that rained, 2 of those that "
            + "escaped, 3 of all that were put", () -> {
                Check.sums("of none", new RingHerd(), 0, 0, 0, 0);
                Check.sums("of one of each", oneOfEach(), 69, 8, 9, 86);
            });
        Sentence.promise(15, "@return the mass", () -> {
            RingHerd herd = new RingHerd();
            for (int i = 0; i < 80; i++) {
                herd.grain(63, 0, 10000, 0);
            }
            Check.sums("as much as can be", herd, 800000, 0, 0, 800000);
            herd.moon(63, 0, 1);
            herd.tick(1);
            Check.sums("all that escaped", herd, 0, 0, 800000, 800000);
        });
        Sentence.promise(15, "@throws IllegalArgumentException if what is out of its range", () -> {
            RingHerd herd = new RingHerd();
            each(Sentence.ARGUMENT, "sum", new int[] {LEAST, -1, 4, MOST}, herd::sum);
        });
    }

    private static void promise16() {
        Sentence.promise(16, "@param what 0 of all grains that are there, 1 of those that rained, 2 of those that "
            + "escaped, 3 of all that were put, as they were put, 4 what moons gave in all, 5 the heat", () -> {
                Check.momenta("of none", new RingHerd(), 0, 0, 0, 0, 0, 0);
                long put = 9 * 40 + 37 * 50 + 23 * 60 + 8 * 20 + 9 * 83;
                // The moons took 8 and gave 9; the break took 1 of the heat, the bump 1.
                long there = 9 * 40 + 30 * 50 + 3 * 49 + 4 * 51 + 11 * 59 + 12 * 61;
                Check.momenta("of one of each", oneOfEach(), there, 8 * 19, 9 * 84, put, 1, -2);
            });
        Sentence.promise(16, "@return the momentum", () -> {
            RingHerd herd = new RingHerd();
            for (int i = 0; i < 80; i++) {
                herd.grain(63, 0, 10000, 0);
            }
            Check.momenta("as much as can be", herd, 66400000, 0, 0, 66400000, 0, 0);
            herd.moon(63, 0, 1);
            herd.tick(1);
            Check.momenta("all that escaped", herd, 0, 0, 67200000, 66400000, 800000, 0);
        });
        Sentence.promise(16, "@throws IllegalArgumentException if what is out of its range", () -> {
            RingHerd herd = new RingHerd();
            each(Sentence.ARGUMENT, "momentum", new int[] {LEAST, -1, 6, MOST}, herd::momentum);
        });
    }

    private static void momentumByLanes() {
        RingHerd herd = new RingHerd();
        Check.due("of none", herd.momentumByLanes(), 0);
        herd.grain(0, 0, 1, 0);
        Check.due("of lane 0", herd.momentumByLanes(), 20);
        herd.grain(63, 0, 1, 0);
        Check.due("of lane 63", herd.momentumByLanes(), 20 + 83);
        herd.moon(1, 0, 400);
        herd.moon(62, 0, 400);
        Check.due("without moons", herd.momentumByLanes(), 20 + 83);
        herd.tick(1);
        Check.due("one rained, one escaped", herd.count(5) + herd.count(6), 2);
        Check.due("of those that are gone", herd.momentumByLanes(), 0);
        RingHerd heavy = new RingHerd();
        for (int i = 0; i < 80; i++) {
            heavy.grain(63, 0, 10000, 0);
        }
        Check.due("as much as can be", heavy.momentumByLanes(), 66400000);
    }

    private static void promise18() {
        Sentence.promise(18, "@param moon its number", () -> {
            RingHerd herd = new RingHerd();
            for (int i = 0; i < 5; i++) {
                herd.moon(20, 0, 1);
            }
            herd.moon(0, 0, 1);
            Check.due("the first one", herd.resonance(0, 0), 21);
            Check.due("the last one", herd.resonance(5, 20), 12);
        });
        Sentence.promise(18, "@param lane 0 to 63", () -> {
            RingHerd herd = new RingHerd();
            herd.moon(20, 0, 1);
            Check.due("lane 0", herd.resonance(0, 0), 21);
            herd.moon(22, 0, 1);
            // 857 of lane 22 by 433 of lane 63.
            Check.due("lane 63", herd.resonance(1, 63), 12);
            each(Sentence.ARGUMENT, "resonance", new int[] {-1, 64}, lane -> herd.resonance(0, lane));
        });
        Sentence.promise(18, "@return 10 times p, and q, together; NONE without", () -> {
            RingHerd herd = new RingHerd();
            herd.moon(0, 0, 1);
            herd.moon(20, 0, 1);
            Check.due("1 to 2", herd.resonance(0, 20), 12);
            Check.due("2 to 1", herd.resonance(1, 0), 21);
            Check.due("5 to 9", herd.resonance(0, 16), 59);
            Check.due("none", herd.resonance(0, 0), NONE);
            herd.flatness(1000);
            Check.due("none by 2050 and 962", herd.resonance(0, 20), NONE);
        });
        Sentence.promise(18, "@throws IndexOutOfBoundsException if there is no such moon", () -> {
            RingHerd none = new RingHerd();
            each(Sentence.NUMBER, "resonance of none", new int[] {LEAST, -1, 0, 6, MOST},
                moon -> none.resonance(moon, 0));
            RingHerd full = Refusals.full();
            each(Sentence.NUMBER, "resonance of six", new int[] {LEAST, -1, 6, MOST},
                moon -> full.resonance(moon, 0));
        });
        Sentence.promise(18, "@throws IllegalArgumentException if lane is out of its range", () -> {
            RingHerd herd = new RingHerd();
            herd.moon(20, 0, 1);
            each(Sentence.ARGUMENT, "resonance", WRONG_LANES, lane -> herd.resonance(0, lane));
        });
    }

    private static RingHerd grainsIn(int... lanes) {
        RingHerd herd = new RingHerd();
        for (int lane : lanes) {
            herd.grain(lane, 500 * lane, 1, 0);
        }
        return herd;
    }

    private static void promise19() {
        Sentence.promise(19, "@param gap its number", () -> {
            RingHerd herd = grainsIn(10, 20, 30, 40);
            Check.due("the first one", herd.gap(0, 0), 11);
            Check.due("the last one", herd.gap(2, 0), 31);
        });
        Sentence.promise(19, "@param what 0 its first lane, 1 its last one, 2 the moon that keeps it, NONE without",
            () -> {
                RingHerd herd = grainsIn(50, 55);
                Check.due("its first lane", herd.gap(0, 0), 51);
                Check.due("its last lane", herd.gap(0, 1), 54);
                Check.due("without a moon", herd.gap(0, 2), NONE);
                herd.moon(55, 0, 1);
                Check.due("with a moon beside it", herd.gap(0, 2), NONE);
                herd.moon(54, 0, 1);
                Check.due("with a moon in it", herd.gap(0, 2), 1);
            });
        Sentence.promise(19, "@return as told", () -> {
            RingHerd herd = grainsIn(0, 63);
            Check.due("its first lane", herd.gap(0, 0), 1);
            Check.due("its last lane", herd.gap(0, 1), 62);
        });
        Sentence.promise(19, "@throws IndexOutOfBoundsException if there is no such gap", () -> {
            RingHerd none = grainsIn(30, 32);
            each(Sentence.NUMBER, "gap of none", new int[] {LEAST, -1, 0, MOST}, gap -> none.gap(gap, 0));
            RingHerd two = grainsIn(10, 20, 30);
            each(Sentence.NUMBER, "gap of two", new int[] {LEAST, -1, 2, 21, 64, MOST}, gap -> two.gap(gap, 0));
            RingHerd most = new RingHerd();
            for (int lane = 0; lane < 64; lane += 3) {
                most.grain(lane, 0, 1, 0);
            }
            Check.due("the last one of 21", most.gap(20, 1), 62);
            each(Sentence.NUMBER, "gap of 21", new int[] {-1, 21}, gap -> most.gap(gap, 0));
        });
        Sentence.promise(19, "@throws IllegalArgumentException if what is out of its range", () -> {
            RingHerd herd = grainsIn(10, 20);
            each(Sentence.ARGUMENT, "gap(0, what)", new int[] {LEAST, -1, 3, MOST}, what -> herd.gap(0, what));
        });
    }

    private static void gaps() {
        Check.due("of no grains", new RingHerd().gaps(), 0);
        Check.due("of one", grainsIn(30).gaps(), 0);
        Check.due("of two side by side", grainsIn(30, 31).gaps(), 0);
        Check.due("of two with one lane between", grainsIn(30, 32).gaps(), 0);
        Check.due("of two with two lanes between", grainsIn(30, 33).gaps(), 1);
        RingHerd most = new RingHerd();
        for (int lane = 0; lane < 64; lane += 3) {
            most.grain(lane, 0, 1, 0);
        }
        Check.due("as many as can be", most.gaps(), 21);
        RingHerd all = new RingHerd();
        for (int lane = 0; lane < 64; lane++) {
            all.grain(lane, 500 * lane, 1, 0);
        }
        Check.due("with grains in all lanes", all.gaps(), 0);
    }

    private static void promise21() {
        Sentence.promise(21, "@param frame its number", () -> {
            RingHerd herd = new RingHerd();
            for (int i = 0; i < 20; i++) {
                herd.frame();
                herd.grain(30, 0, 1, 0);
            }
            Check.due("the first one", herd.framed(0, 30), 0);
            Check.due("the last one", herd.framed(19, 30), 19);
        });
        Sentence.promise(21, "@param lane 0 to 63", () -> {
            RingHerd herd = grainsIn(0, 63);
            herd.frame();
            Check.due("lane 0", herd.framed(0, 0), 1);
            Check.due("lane 63", herd.framed(0, 63), 1);
            each(Sentence.ARGUMENT, "framed", new int[] {-1, 64}, lane -> herd.framed(0, lane));
        });
        Sentence.promise(21, "@return the mass", () -> {
            RingHerd herd = oneOfEach();
            herd.frame();
            Check.due("of two that stuck", herd.framed(0, 20), 9);
            Check.due("of one that rained", herd.framed(0, 0), 0);
            Check.due("of one that escaped", herd.framed(0, 63), 0);
            herd.grain(20, 0, 1, 0);
            Check.due("of then, not of now", herd.framed(0, 20), 9);
        });
        Sentence.promise(21, "@throws IndexOutOfBoundsException if there is no such frame", () -> {
            RingHerd none = new RingHerd();
            each(Sentence.NUMBER, "framed of none", new int[] {LEAST, -1, 0, 19, MOST}, i -> none.framed(i, 0));
            RingHerd full = Refusals.full();
            each(Sentence.NUMBER, "framed of 20", new int[] {LEAST, -1, 20, MOST}, i -> full.framed(i, 0));
        });
        Sentence.promise(21, "@throws IllegalArgumentException if lane is out of its range", () -> {
            RingHerd full = Refusals.full();
            each(Sentence.ARGUMENT, "framed", WRONG_LANES, lane -> full.framed(19, lane));
        });
    }

    /** Frames with 5, 7 and 9 in lane 30, the last one a tick later, and a claim of the second one: 7 at most. */
    private static RingHerd claimed() {
        RingHerd herd = new RingHerd();
        herd.grain(30, 0, 5, 0);
        herd.frame();
        herd.grain(30, 18000, 2, 0);
        herd.frame();
        herd.tick(1);
        herd.grain(30, 0, 2, 0);
        herd.frame();
        herd.claim(1, 30, 30, 7);
        return herd;
    }

    private static void promise22() {
        Sentence.promise(22, "@param claim its number", () -> {
            RingHerd herd = claimed();
            for (int most = 6; most < 45; most++) {
                herd.claim(2, 0, 63, most);
            }
            Check.due("the first one", herd.holds(0, 1), true);
            Check.due("the second one", herd.holds(1, 1), false);
            Check.due("the last one", herd.holds(39, 2), true);
            Check.throwsJust(Sentence.STATE, "there are 40", () -> herd.claim(0, 0, 0, 0));
        });
        Sentence.promise(22, "@param frame a frame, or NONE for its own", () -> {
            RingHerd herd = claimed();
            Check.due("the first frame", herd.holds(0, 0), true);
            Check.due("its own by its number", herd.holds(0, 1), true);
            Check.due("its own by NONE", herd.holds(0, NONE), true);
            Check.due("the last frame", herd.holds(0, 2), false);
            herd.claim(2, 30, 30, 8);
            Check.due("the last one's own by NONE", herd.holds(1, NONE), false);
            herd.claim(0, 30, 30, 4);
            Check.due("the first one's own by NONE", herd.holds(2, NONE), false);
        });
        Sentence.promise(22, "@return whether it does", () -> {
            RingHerd herd = claimed();
            herd.claim(0, 30, 30, 5);
            herd.claim(0, 30, 30, 4);
            Check.due("with just as much", herd.holds(1, 0), true);
            Check.due("with one more", herd.holds(2, 0), false);
        });
        Sentence.promise(22, "@throws IndexOutOfBoundsException if there is no such claim, or frame, not being NONE",
            () -> {
                RingHerd herd = claimed();
                each(Sentence.NUMBER, "claim", new int[] {LEAST, -1, 1, 39, 40, MOST}, i -> herd.holds(i, 0));
                each(Sentence.NUMBER, "claim by NONE", new int[] {LEAST, -1, 1, MOST}, i -> herd.holds(i, NONE));
                each(Sentence.NUMBER, "frame", new int[] {LEAST, -2, 3, 19, 20, MOST}, i -> herd.holds(0, i));
                Check.due("NONE is a frame here", Check.thrownBy(() -> herd.holds(0, NONE)), "nothing");
                RingHerd none = new RingHerd();
                each(Sentence.NUMBER, "claim of none", new int[] {-1, 0}, i -> none.holds(i, NONE));
                RingHerd full = Refusals.full();
                each(Sentence.NUMBER, "claim of 40", new int[] {-1, 40}, i -> full.holds(i, 19));
                each(Sentence.NUMBER, "frame of 20", new int[] {-2, 20}, i -> full.holds(39, i));
            });
    }

    private static void promise23() {
        Sentence.promise(23, "Counts the frames of a claim's own tick and later by which it does not hold.", () -> {
            RingHerd herd = claimed();
            Check.due("one later frame", herd.disputes(0), 1);
            herd.claim(1, 30, 30, 4);
            Check.due("all frames of its own tick, and later", herd.disputes(1), 3);
            herd.claim(2, 30, 30, 4);
            Check.due("its own frame, without those of ticks ahead", herd.disputes(2), 1);
            herd.claim(2, 30, 30, 9);
            Check.due("none", herd.disputes(3), 0);
            herd.frame();
            Check.due("a new frame", herd.disputes(2), 2);
            herd.tick(50);
            Check.due("ticks without a frame", herd.disputes(2), 2);
        });
        Sentence.promise(23, "@param claim its number", () -> {
            RingHerd herd = claimed();
            for (int most = 4; most < 43; most++) {
                herd.claim(0, 30, 30, most);
            }
            Check.due("the second one", herd.disputes(1), 3);
            Check.due("the last one", herd.disputes(39), 0);
        });
        Sentence.promise(23, "@return how many", () -> {
            RingHerd herd = new RingHerd();
            herd.grain(30, 0, 5, 0);
            for (int i = 0; i < 20; i++) {
                herd.frame();
            }
            herd.claim(0, 30, 30, 4);
            herd.claim(19, 30, 30, 5);
            Check.due("all that can be", herd.disputes(0), 20);
            Check.due("none", herd.disputes(1), 0);
        });
        Sentence.promise(23, "@throws IndexOutOfBoundsException if there is no such claim", () -> {
            RingHerd herd = claimed();
            each(Sentence.NUMBER, "disputes", new int[] {LEAST, -1, 1, 39, 40, MOST}, herd::disputes);
            RingHerd none = new RingHerd();
            each(Sentence.NUMBER, "disputes of none", new int[] {-1, 0}, none::disputes);
            RingHerd full = Refusals.full();
            each(Sentence.NUMBER, "disputes of 40", new int[] {-1, 40}, full::disputes);
        });
    }
}
