/**
 * Rings and moons of a giant: grains of ice on lanes that go round, bump, stick and break, moons that push
 * grains aside and keep gaps, frames of the lanes' masses, and claims that are held against frames.
 */
public final class RingHerd {
    /** None. */
    public static final int NONE = -1;

    private static final int LANES = 64;
    private static final int LAST_LANE = LANES - 1;
    private static final int RADIUS_OF_FIRST_LANE = 20;
    private static final int FULL_TURN = 36000;
    private static final int MOST_MASS = 10000;
    private static final int MOST_UNREST = 99;
    private static final int MOST_DARKNESS = 1000;
    private static final int MOST_FLATNESS = 1000;

    private static final int MOST_GRAINS = 80;
    private static final int MOST_MOONS = 6;
    private static final int MOST_FRAMES = 20;
    private static final int MOST_CLAIMS = 40;
    private static final int MOST_CLAIMED_MASS = 1000000;

    private static final int MOST_TICKS_AT_ONCE = 50;
    private static final int LAST_TICK = 2000;

    private static final int MOST_FIRST_BOUND = 1000;
    private static final int MOST_SECOND_BOUND = 5000;
    private static final int WHOLE_SPRING = 100;

    private static final int PUSH_ANGLE = 1000;
    private static final int PUSH_UNREST = 5;
    private static final int MEETING_LANES = 1;
    private static final int MEETING_ANGLE = 100;

    private static final int MOST_RATIO = 9;
    private static final int RESONANCE_SLACK = 20;
    private static final int KEEPING_DIFFERENCE = 2;
    private static final int SHORTEST_GAP = 2;
    /** A gap and the lane with grains behind it take three lanes or more. */
    private static final int MOST_GAPS = LANES / (SHORTEST_GAP + 1);

    private final Herd herd;
    private final Moon[] moons;
    private int moonCount;
    private final Frame[] frames;
    private int frameCount;
    private final Claim[] claims;
    private int claimCount;
    private int ticksGone;

    /** Rows that questions fill anew each time, so that no call makes an array. */
    private final int[] laneMasses;
    private final int[] gapFirsts;
    private final int[] gapLasts;

    /** No grains, no moons, the tick 0. */
    public RingHerd() {
        herd = new Herd();
        moons = new Moon[MOST_MOONS];
        for (int i = 0; i < MOST_MOONS; i++) {
            moons[i] = new Moon();
        }
        frames = new Frame[MOST_FRAMES];
        for (int i = 0; i < MOST_FRAMES; i++) {
            frames[i] = new Frame();
        }
        claims = new Claim[MOST_CLAIMS];
        for (int i = 0; i < MOST_CLAIMS; i++) {
            claims[i] = new Claim();
        }
        laneMasses = new int[LANES];
        gapFirsts = new int[MOST_GAPS];
        gapLasts = new int[MOST_GAPS];
    }

    // ---- what is told

    /** Puts a grain. */
    public int grain(int lane, int angle, int mass, int unrest)
            throws IllegalArgumentException, IllegalStateException {
        requirePlace(lane, angle, mass);
        requireRange(unrest, 0, MOST_UNREST);
        if (herd.grainCount >= MOST_GRAINS) {
            throw new IllegalStateException("there were 80 grains");
        }
        return herd.put(lane, angle, mass, unrest);
    }

    /** Puts a moon. */
    public int moon(int lane, int angle, int mass) throws IllegalArgumentException, IllegalStateException {
        requirePlace(lane, angle, mass);
        if (moonCount >= MOST_MOONS) {
            throw new IllegalStateException("there are 6 moons");
        }
        Moon moon = moons[moonCount];
        moon.lane = lane;
        moon.angle = angle;
        moon.width = widthOf(mass);
        moonCount++;
        return moonCount - 1;
    }

    /** Sets the flatness. */
    public int flatness(int flatness) throws IllegalArgumentException {
        requireRange(flatness, 0, MOST_FLATNESS);
        int before = herd.planet.flatness;
        herd.planet.flatness = flatness;
        return before;
    }

    /** Sets how grains meet. */
    public void bounds(int first, int second, int spring) throws IllegalArgumentException {
        requireRange(first, 0, MOST_FIRST_BOUND);
        requireRange(second, first, MOST_SECOND_BOUND);
        requireRange(spring, 0, WHOLE_SPRING);
        herd.firstBound = first;
        herd.secondBound = second;
        herd.spring = spring;
    }

    /** Lets ticks go by. */
    public int tick(int ticks) throws IllegalArgumentException, IllegalStateException {
        requireRange(ticks, 1, MOST_TICKS_AT_ONCE);
        if (ticksGone + ticks > LAST_TICK) {
            throw new IllegalStateException("the tick would be above 2000");
        }
        for (int i = 0; i < ticks; i++) {
            passTick();
        }
        return ticksGone;
    }

    /** Takes a frame. */
    public int frame() throws IllegalStateException {
        if (frameCount >= MOST_FRAMES) {
            throw new IllegalStateException("there are 20 frames");
        }
        Frame frame = frames[frameCount];
        frame.takenAt = ticksGone;
        herd.weighLanes(frame.masses);
        frameCount++;
        return frameCount - 1;
    }

    /** Makes a claim. */
    public int claim(int frame, int from, int to, int most)
            throws IndexOutOfBoundsException, IllegalArgumentException, IllegalStateException {
        requireNumber(frame, frameCount);
        requireLane(from);
        requireRange(to, from, LAST_LANE);
        requireRange(most, 0, MOST_CLAIMED_MASS);
        if (claimCount >= MOST_CLAIMS) {
            throw new IllegalStateException("there are 40 claims");
        }
        Claim claim = claims[claimCount];
        claim.frame = frame;
        claim.from = from;
        claim.to = to;
        claim.most = most;
        claimCount++;
        return claimCount - 1;
    }

    // ---- questions

    /** Returns the tick. */
    public int now() {
        return ticksGone;
    }

    /** Tells of a grain. */
    public int told(int grain, int what) throws IndexOutOfBoundsException, IllegalArgumentException {
        requireNumber(grain, herd.grainCount);
        Grain asked = herd.grains[grain];
        switch (what) {
            case 0:
                return asked.lane;
            case 1:
                return asked.angle;
            case 2:
                return asked.mass;
            case 3:
                return asked.unrest;
            case 4:
                return asked.darkness;
            case 5:
                return asked.there ? 1 : 0;
            default:
                throw new IllegalArgumentException("what is 0 to 5");
        }
    }

    /** Returns the angle of a moon. */
    public int angle(int moon) throws IndexOutOfBoundsException {
        requireNumber(moon, moonCount);
        return moons[moon].angle;
    }

    /** Returns the speed of a lane. */
    public int speed(int lane) throws IllegalArgumentException {
        requireLane(lane);
        return herd.planet.speedIn(lane);
    }

    /** Counts something. */
    public int count(int what) throws IllegalArgumentException {
        switch (what) {
            case 0:
                return herd.grainCount;
            case 1:
                return herd.countThere();
            case 2:
                return herd.ledger.stuck;
            case 3:
                return herd.ledger.broken;
            case 4:
                return herd.ledger.bumps;
            case 5:
                return herd.ledger.rained;
            case 6:
                return herd.ledger.escaped;
            default:
                throw new IllegalArgumentException("what is 0 to 6");
        }
    }

    /** Returns the mass of a lane. */
    public int mass(int lane) throws IllegalArgumentException {
        requireLane(lane);
        herd.weighLanes(laneMasses);
        return laneMasses[lane];
    }

    /** Returns a sum of masses. */
    public int sum(int what) throws IllegalArgumentException {
        switch (what) {
            case 0:
                return herd.massThere();
            case 1:
                return herd.ledger.rainedMass;
            case 2:
                return herd.ledger.escapedMass;
            case 3:
                return herd.ledger.putMass;
            default:
                throw new IllegalArgumentException("what is 0 to 3");
        }
    }

    /** Returns a momentum. */
    public long momentum(int what) throws IllegalArgumentException {
        switch (what) {
            case 0:
                return herd.momentumThere();
            case 1:
                return herd.ledger.rainedMomentum;
            case 2:
                return herd.ledger.escapedMomentum;
            case 3:
                return herd.ledger.putMomentum;
            case 4:
                return herd.ledger.givenByMoons;
            case 5:
                return herd.ledger.heat;
            default:
                throw new IllegalArgumentException("what is 0 to 5");
        }
    }

    /** Returns the momentum of all grains that are there, found by the lanes and their masses. */
    public long momentumByLanes() {
        herd.weighLanes(laneMasses);
        long found = 0;
        for (int lane = 0; lane < LANES; lane++) {
            found += (long) laneMasses[lane] * radiusOf(lane);
        }
        return found;
    }

    /** Returns the resonance of a moon and a lane. */
    public int resonance(int moon, int lane) throws IndexOutOfBoundsException, IllegalArgumentException {
        requireNumber(moon, moonCount);
        requireLane(lane);
        return ratioOf(moons[moon], lane, MOST_RATIO - 1);
    }

    /** Tells of a gap. */
    public int gap(int gap, int what) throws IndexOutOfBoundsException, IllegalArgumentException {
        requireNumber(gap, surveyGaps());
        switch (what) {
            case 0:
                return gapFirsts[gap];
            case 1:
                return gapLasts[gap];
            case 2:
                return keeperOf(gapFirsts[gap], gapLasts[gap]);
            default:
                throw new IllegalArgumentException("what is 0 to 2");
        }
    }

    /** Returns how many gaps there are. */
    public int gaps() {
        return surveyGaps();
    }

    /** Returns the mass of a lane in a frame. */
    public int framed(int frame, int lane) throws IndexOutOfBoundsException, IllegalArgumentException {
        requireNumber(frame, frameCount);
        requireLane(lane);
        return frames[frame].masses[lane];
    }

    /** Tells whether a claim holds, by another frame, or its own. */
    public boolean holds(int claim, int frame) throws IndexOutOfBoundsException {
        requireNumber(claim, claimCount);
        Claim asked = claims[claim];
        int by = frame == NONE ? asked.frame : frame;
        requireNumber(by, frameCount);
        return asked.holdsBy(frames[by]);
    }

    /** Counts the frames of a claim's own tick and later by which it does not hold. */
    public int disputes(int claim) throws IndexOutOfBoundsException {
        requireNumber(claim, claimCount);
        Claim asked = claims[claim];
        int ownTick = frames[asked.frame].takenAt;
        int found = 0;
        for (int i = 0; i < frameCount; i++) {
            // A frame taken ahead of the claim's own one counts too, if it was in the same tick.
            if (frames[i].takenAt >= ownTick && !asked.holdsBy(frames[i])) {
                found++;
            }
        }
        return found;
    }

    // ---- what the calls are made of

    private static void requireRange(int value, int least, int most) {
        if (value < least || value > most) {
            throw new IllegalArgumentException("an argument is out of its range");
        }
    }

    private static void requireLane(int lane) {
        requireRange(lane, 0, LAST_LANE);
    }

    private static void requirePlace(int lane, int angle, int mass) {
        requireLane(lane);
        requireRange(angle, 0, FULL_TURN - 1);
        requireRange(mass, 1, MOST_MASS);
    }

    private static void requireNumber(int number, int count) {
        if (number < 0 || number >= count) {
            throw new IndexOutOfBoundsException("there is none with this number");
        }
    }

    private static int radiusOf(int lane) {
        return lane + RADIUS_OF_FIRST_LANE;
    }

    private static int turned(int angle, int speed) {
        return (angle + speed) % FULL_TURN;
    }

    private static int anglesApart(int one, int other) {
        int straight = Math.abs(one - other);
        return Math.min(straight, FULL_TURN - straight);
    }

    /** The root of a moon's mass, rounded down, divided by 20. */
    private static int widthOf(int mass) {
        int root = 0;
        for (int next = 1; next <= 100 && next * next <= mass; next++) {
            root = next;
        }
        return root / 20;
    }

    private void passTick() {
        for (int i = 0; i < moonCount; i++) {
            moons[i].angle = turned(moons[i].angle, herd.planet.speedIn(moons[i].lane));
        }
        herd.goRound();
        for (int i = 0; i < moonCount; i++) {
            herd.yieldTo(moons[i]);
        }
        herd.meetAll();
        herd.darken();
        ticksGone++;
    }

    /** The resonance 10 p + q that counts, if p and q differ by at most that much; NONE without. */
    private int ratioOf(Moon moon, int lane, int mostDifference) {
        int moonSpeed = herd.planet.speedIn(moon.lane);
        int laneSpeed = herd.planet.speedIn(lane);
        for (int difference = 1; difference <= mostDifference; difference++) {
            for (int p = 1; p <= MOST_RATIO; p++) {
                int less = p - difference;
                if (less >= 1 && inTune(p * moonSpeed, less * laneSpeed)) {
                    return 10 * p + less;
                }
                int more = p + difference;
                if (more <= MOST_RATIO && inTune(p * moonSpeed, more * laneSpeed)) {
                    return 10 * p + more;
                }
            }
        }
        return NONE;
    }

    private static boolean inTune(int one, int other) {
        return Math.abs(one - other) <= RESONANCE_SLACK;
    }

    /** Finds all gaps from the inside, fills their rows, and returns how many there are. */
    private int surveyGaps() {
        herd.weighLanes(laneMasses);
        int found = 0;
        int ahead = NONE;
        for (int lane = 0; lane < LANES; lane++) {
            if (laneMasses[lane] > 0) {
                if (ahead != NONE && lane - ahead > SHORTEST_GAP && found < MOST_GAPS) {
                    gapFirsts[found] = ahead + 1;
                    gapLasts[found] = lane - 1;
                    found++;
                }
                ahead = lane;
            }
        }
        return found;
    }

    private int keeperOf(int first, int last) {
        for (int i = 0; i < moonCount; i++) {
            if (moons[i].lane >= first && moons[i].lane <= last) {
                return i;
            }
        }
        for (int i = 0; i < moonCount; i++) {
            if (ratioOf(moons[i], first - 1, KEEPING_DIFFERENCE) != NONE
                    || ratioOf(moons[i], last + 1, KEEPING_DIFFERENCE) != NONE) {
                return i;
            }
        }
        return NONE;
    }

    /** The giant that all go round. */
    private static final class Planet {
        int flatness;

        int speedIn(int lane) {
            int radius = radiusOf(lane);
            if (radius < 1) {
                return 0;
            }
            return FULL_TURN / radius + 100 * flatness / (radius * radius);
        }
    }

    /** A moon; it is one only when its number is below the count of moons. */
    private static final class Moon {
        int lane;
        int angle;
        int width;
    }

    /** A grain; one that was never put is not there, and so takes part in nothing. */
    private static final class Grain {
        int lane;
        int angle;
        int mass;
        int unrest;
        int darkness;
        boolean there;
        boolean met;

        long carried() {
            return (long) mass * (lane + RADIUS_OF_FIRST_LANE);
        }

        boolean isNear(int otherLane, int otherAngle, int lanes, int angles) {
            return Math.abs(lane - otherLane) <= lanes && anglesApart(angle, otherAngle) <= angles;
        }

        boolean mayMeet() {
            return there && !met;
        }
    }

    /** What was put, what happened, and what was lost. */
    private static final class Ledger {
        int stuck;
        int broken;
        int bumps;
        int rained;
        int escaped;
        int putMass;
        int rainedMass;
        int escapedMass;
        long putMomentum;
        long rainedMomentum;
        long escapedMomentum;
        long givenByMoons;
        long heat;
    }

    /** All grains, and what befalls them in a tick. */
    private static final class Herd {
        final Planet planet;
        final Ledger ledger;
        final Grain[] grains;
        int grainCount;
        int firstBound;
        int secondBound;
        int spring;

        Herd() {
            planet = new Planet();
            ledger = new Ledger();
            grains = new Grain[MOST_GRAINS];
            for (int i = 0; i < MOST_GRAINS; i++) {
                grains[i] = new Grain();
            }
            firstBound = 20;
            secondBound = 80;
            spring = 50;
        }

        int put(int lane, int angle, int mass, int unrest) {
            Grain grain = grains[grainCount];
            grain.lane = lane;
            grain.angle = angle;
            grain.mass = mass;
            grain.unrest = unrest;
            grain.there = true;
            ledger.putMass += mass;
            ledger.putMomentum += grain.carried();
            grainCount++;
            return grainCount - 1;
        }

        int countThere() {
            int found = 0;
            for (Grain grain : grains) {
                if (grain.there) {
                    found++;
                }
            }
            return found;
        }

        int massThere() {
            int found = 0;
            for (Grain grain : grains) {
                if (grain.there) {
                    found += grain.mass;
                }
            }
            return found;
        }

        long momentumThere() {
            long found = 0;
            for (Grain grain : grains) {
                if (grain.there) {
                    found += grain.carried();
                }
            }
            return found;
        }

        void weighLanes(int[] row) {
            for (int lane = 0; lane < row.length; lane++) {
                row[lane] = 0;
            }
            for (Grain grain : grains) {
                if (grain.there && grain.lane >= 0 && grain.lane < row.length) {
                    row[grain.lane] += grain.mass;
                }
            }
        }

        void goRound() {
            for (Grain grain : grains) {
                if (grain.there) {
                    grain.angle = turned(grain.angle, planet.speedIn(grain.lane));
                }
            }
        }

        void yieldTo(Moon moon) {
            for (Grain grain : grains) {
                if (grain.there && grain.isNear(moon.lane, moon.angle, moon.width, PUSH_ANGLE)) {
                    long before = grain.carried();
                    shift(grain, grain.lane < moon.lane ? -1 : 1);
                    grain.unrest = Math.min(grain.unrest + PUSH_UNREST, MOST_UNREST);
                    ledger.givenByMoons += grain.carried() - before;
                }
            }
        }

        void meetAll() {
            for (Grain grain : grains) {
                grain.met = false;
            }
            // Grains that come by breaking meanwhile stand behind these, so they meet none.
            int before = grainCount;
            for (int i = 0; i < before; i++) {
                if (grains[i].mayMeet()) {
                    int partner = partnerOf(i, before);
                    if (partner != NONE) {
                        meet(grains[i], grains[partner]);
                    }
                }
            }
        }

        void darken() {
            for (Grain grain : grains) {
                if (grain.there) {
                    grain.darkness = Math.min(grain.darkness + 1, MOST_DARKNESS);
                }
            }
        }

        /** The first of the higher grains, below the end, that a grain meets; NONE without. */
        private int partnerOf(int number, int end) {
            Grain grain = grains[number];
            for (int i = number + 1; i < end; i++) {
                Grain other = grains[i];
                if (other.mayMeet() && grain.isNear(other.lane, other.angle, MEETING_LANES, MEETING_ANGLE)) {
                    return i;
                }
            }
            return NONE;
        }

        private void meet(Grain lower, Grain higher) {
            lower.met = true;
            higher.met = true;
            int clash = lower.unrest + higher.unrest
                    + Math.abs(planet.speedIn(lower.lane) - planet.speedIn(higher.lane));
            Grain lighter = lower.mass < higher.mass ? lower : higher;
            if (clash <= firstBound) {
                stick(lower, higher);
            } else if (clash > secondBound && lighter.mass >= 2 && grainCount < MOST_GRAINS) {
                breakUp(lighter);
            } else {
                bump(lower, higher);
            }
        }

        private void stick(Grain lower, Grain higher) {
            long before = lower.carried() + higher.carried();
            int lane = blend(lower, lower.lane, higher, higher.lane);
            int darkness = blend(lower, lower.darkness, higher, higher.darkness);
            lower.lane = lane;
            lower.darkness = darkness;
            lower.unrest = Math.min(lower.unrest, higher.unrest);
            lower.mass += higher.mass;
            higher.there = false;
            ledger.stuck++;
            ledger.heat += before - lower.carried();
        }

        /** The mean of what two grains have, by their masses, rounded down. */
        private static int blend(Grain one, int ofOne, Grain other, int ofOther) {
            long mass = (long) one.mass + other.mass;
            if (mass < 1) {
                return ofOne;
            }
            return (int) (((long) one.mass * ofOne + (long) other.mass * ofOther) / mass);
        }

        private void breakUp(Grain grain) {
            if (grainCount >= MOST_GRAINS) {
                return;
            }
            long before = grain.carried();
            Grain fresh = grains[grainCount];
            grainCount++;
            fresh.lane = grain.lane;
            fresh.angle = grain.angle;
            fresh.darkness = grain.darkness;
            fresh.unrest = 0;
            fresh.there = true;
            fresh.mass = grain.mass - grain.mass / 2;
            grain.mass = grain.mass / 2;
            grain.unrest = 0;
            shift(grain, -1);
            shift(fresh, 1);
            ledger.broken++;
            ledger.heat += before - grain.carried() - fresh.carried();
        }

        private void bump(Grain lower, Grain higher) {
            long before = lower.carried() + higher.carried();
            int lowerGoes = lower.lane <= higher.lane ? -1 : 1;
            shift(lower, lowerGoes);
            shift(higher, -lowerGoes);
            lower.unrest = lower.unrest * spring / WHOLE_SPRING;
            higher.unrest = higher.unrest * spring / WHOLE_SPRING;
            ledger.bumps++;
            ledger.heat += before - lower.carried() - higher.carried();
        }

        /** Moves a grain to another lane; behind the first or the last one it is gone. */
        private void shift(Grain grain, int lanes) {
            grain.lane += lanes;
            if (grain.lane < 0) {
                grain.there = false;
                ledger.rained++;
                ledger.rainedMass += grain.mass;
                ledger.rainedMomentum += grain.carried();
            } else if (grain.lane >= LANES) {
                grain.there = false;
                ledger.escaped++;
                ledger.escapedMass += grain.mass;
                ledger.escapedMomentum += grain.carried();
            }
        }
    }

    /** The masses of all lanes as they were in a tick. */
    private static final class Frame {
        final int[] masses = new int[LANES];
        int takenAt;
    }

    /** That in a frame none of some lanes has more than some mass. */
    private static final class Claim {
        int frame;
        int from;
        int to;
        int most;

        boolean holdsBy(Frame looked) {
            for (int lane = from; lane <= to && lane < LANES; lane++) {
                if (looked.masses[lane] > most) {
                    return false;
                }
            }
            return true;
        }
    }
}
