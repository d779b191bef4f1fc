import java.util.ArrayList;
import java.util.List;

/**
 * The document told once more, as plainly as can be and by other ways than the class goes: whole totals
 * instead of what changes, all pairs, all ratios, all spans of lanes. Every answer is a text, a number or
 * the name of an exception. ModelTest holds the class against it.
 */
final class RingModel {
    private static final String ARGUMENT = "IllegalArgumentException";
    private static final String NUMBER = "IndexOutOfBoundsException";
    private static final String STATE = "IllegalStateException";

    private static final class Ice {
        int lane;
        int angle;
        int mass;
        int unrest;
        int dark;
        boolean stuck;
        boolean met;

        boolean there() {
            return !stuck && within(lane, 0, 63);
        }

        long momentum() {
            return (long) mass * (lane + 20);
        }
    }

    private final List<Ice> ice = new ArrayList<>();
    private final List<int[]> moons = new ArrayList<>(); // lane, angle, mass
    private final List<int[]> frames = new ArrayList<>(); // 64 masses, the tick
    private final List<int[]> claims = new ArrayList<>(); // frame, from, to, most
    private int flatness = 0;
    private int first = 20;
    private int second = 80;
    private int spring = 50;
    private int now = 0;
    private int sticks = 0;
    private int breaks = 0;
    private int bumps = 0;
    private int putMass = 0;
    private long putMomentum = 0;
    private long given = 0;
    private long heat = 0;

    String answer(String call, int[] a) {
        switch (call) {
            case "grain": return grain(a[0], a[1], a[2], a[3]);
            case "moon": return moon(a[0], a[1], a[2]);
            case "flatness": return flatness(a[0]);
            case "bounds": return bounds(a[0], a[1], a[2]);
            case "tick": return tick(a[0]);
            case "frame": return frame();
            case "claim": return claim(a[0], a[1], a[2], a[3]);
            case "now": return "" + now;
            case "told": return told(a[0], a[1]);
            case "angle": return !within(a[0], 0, moons.size() - 1) ? NUMBER : "" + moons.get(a[0])[1];
            case "speed": return !within(a[0], 0, 63) ? ARGUMENT : "" + speed(a[0]);
            case "count": return count(a[0]);
            case "mass": return !within(a[0], 0, 63) ? ARGUMENT : "" + masses()[a[0]];
            case "sum": return sum(a[0]);
            case "momentum": return momentum(a[0]);
            case "momentumByLanes": return "" + total(0);
            case "resonance": return resonance(a[0], a[1]);
            case "gap": return gap(a[0], a[1]);
            case "gaps": return "" + gaps().size();
            case "framed": return framed(a[0], a[1]);
            case "holds": return holds(a[0], a[1]);
            case "disputes": return disputes(a[0]);
            default: throw new IllegalArgumentException(call);
        }
    }

    private static boolean within(int value, int least, int most) {
        return least <= value && value <= most;
    }

    private String grain(int lane, int angle, int mass, int unrest) {
        if (!within(lane, 0, 63) || !within(angle, 0, 35999) || !within(mass, 1, 10000) || !within(unrest, 0, 99)) {
            return ARGUMENT;
        }
        if (ice.size() == 80) {
            return STATE;
        }
        Ice grain = new Ice();
        grain.lane = lane;
        grain.angle = angle;
        grain.mass = mass;
        grain.unrest = unrest;
        ice.add(grain);
        putMass += mass;
        putMomentum += grain.momentum();
        return "" + (ice.size() - 1);
    }

    private String moon(int lane, int angle, int mass) {
        if (!within(lane, 0, 63) || !within(angle, 0, 35999) || !within(mass, 1, 10000)) {
            return ARGUMENT;
        }
        if (moons.size() == 6) {
            return STATE;
        }
        moons.add(new int[] {lane, angle, mass});
        return "" + (moons.size() - 1);
    }

    private String flatness(int to) {
        if (!within(to, 0, 1000)) {
            return ARGUMENT;
        }
        int before = flatness;
        flatness = to;
        return "" + before;
    }

    private String bounds(int one, int two, int spring) {
        if (!within(one, 0, 1000) || !within(two, one, 5000) || !within(spring, 0, 100)) {
            return ARGUMENT;
        }
        first = one;
        second = two;
        this.spring = spring;
        return "void";
    }

    private String tick(int ticks) {
        if (!within(ticks, 1, 50)) {
            return ARGUMENT;
        }
        if (now + ticks > 2000) {
            return STATE;
        }
        for (int i = 0; i < ticks; i++) {
            now++;
            oneTick();
        }
        return "" + now;
    }

    private int speed(int lane) {
        int radius = lane + 20;
        return 36000 / radius + 100 * flatness / (radius * radius);
    }

    private static int apart(int angle, int other) {
        return Math.min(Math.floorMod(angle - other, 36000), Math.floorMod(other - angle, 36000));
    }

    private void oneTick() {
        for (Ice grain : ice) {
            if (grain.there()) {
                grain.angle = Math.floorMod(grain.angle + speed(grain.lane), 36000);
            }
            grain.met = false;
        }
        for (int[] moon : moons) {
            moon[1] = Math.floorMod(moon[1] + speed(moon[0]), 36000);
        }
        long before = total(0) + total(1) + total(2);
        for (int[] moon : moons) {
            push(moon);
        }
        long pushed = total(0) + total(1) + total(2);
        given += pushed - before;
        List<Ice> old = new ArrayList<>(ice);
        for (Ice lower : old) {
            for (Ice higher : old.subList(old.indexOf(lower) + 1, old.size())) {
                if (lower.there() && higher.there() && !lower.met && !higher.met
                    && Math.abs(lower.lane - higher.lane) <= 1 && apart(lower.angle, higher.angle) <= 100) {
                    lower.met = true;
                    higher.met = true;
                    meet(lower, higher);
                }
            }
        }
        heat += pushed - (total(0) + total(1) + total(2));
        for (Ice grain : ice) {
            if (grain.there() && grain.dark < 1000) {
                grain.dark++;
            }
        }
    }

    private void push(int[] moon) {
        int width = (int) Math.floor(Math.sqrt(moon[2])) / 20;
        for (Ice grain : ice) {
            if (grain.there() && Math.abs(grain.lane - moon[0]) <= width && apart(grain.angle, moon[1]) <= 1000) {
                grain.lane += grain.lane >= moon[0] ? 1 : -1;
                grain.unrest = grain.unrest >= 94 ? 99 : grain.unrest + 5;
            }
        }
    }

    private void meet(Ice lower, Ice higher) {
        int clash = lower.unrest + higher.unrest + Math.abs(speed(lower.lane) - speed(higher.lane));
        Ice lighter = higher.mass <= lower.mass ? higher : lower;
        if (clash <= first) {
            int mass = lower.mass + higher.mass;
            lower.lane = (lower.mass * lower.lane + higher.mass * higher.lane) / mass;
            lower.dark = (lower.mass * lower.dark + higher.mass * higher.dark) / mass;
            lower.unrest = Math.min(lower.unrest, higher.unrest);
            lower.mass = mass;
            higher.stuck = true;
            sticks++;
        } else if (clash > second && lighter.mass > 1 && ice.size() < 80) {
            Ice rest = new Ice();
            rest.lane = lighter.lane + 1;
            rest.angle = lighter.angle;
            rest.dark = lighter.dark;
            rest.mass = (lighter.mass + 1) / 2;
            lighter.mass = lighter.mass / 2;
            lighter.lane--;
            lighter.unrest = 0;
            ice.add(rest);
            breaks++;
        } else {
            Ice inner = higher.lane < lower.lane ? higher : lower;
            Ice outer = inner == lower ? higher : lower;
            inner.lane--;
            outer.lane++;
            inner.unrest = inner.unrest * spring / 100;
            outer.unrest = outer.unrest * spring / 100;
            bumps++;
        }
    }

    private int[] masses() {
        int[] masses = new int[64];
        for (Ice grain : ice) {
            if (grain.there()) {
                masses[grain.lane] += grain.mass;
            }
        }
        return masses;
    }

    private String frame() {
        if (frames.size() == 20) {
            return STATE;
        }
        int[] frame = new int[65];
        System.arraycopy(masses(), 0, frame, 0, 64);
        frame[64] = now;
        frames.add(frame);
        return "" + (frames.size() - 1);
    }

    private String claim(int frame, int from, int to, int most) {
        if (!within(frame, 0, frames.size() - 1)) {
            return NUMBER;
        }
        if (!within(from, 0, 63) || !within(to, from, 63) || !within(most, 0, 1000000)) {
            return ARGUMENT;
        }
        if (claims.size() == 40) {
            return STATE;
        }
        claims.add(new int[] {frame, from, to, most});
        return "" + (claims.size() - 1);
    }

    private String told(int number, int what) {
        if (!within(number, 0, ice.size() - 1)) {
            return NUMBER;
        }
        if (!within(what, 0, 5)) {
            return ARGUMENT;
        }
        Ice grain = ice.get(number);
        int[] all = {grain.lane, grain.angle, grain.mass, grain.unrest, grain.dark, grain.there() ? 1 : 0};
        return "" + all[what];
    }

    /** Whether a grain is there (0), rained (1), or escaped (2). */
    private static boolean is(Ice grain, int what) {
        return what == 0 ? grain.there() : !grain.stuck && grain.lane == (what == 1 ? -1 : 64);
    }

    private int many(int what) {
        return (int) ice.stream().filter(grain -> is(grain, what)).count();
    }

    private long total(int what) {
        return ice.stream().filter(grain -> is(grain, what)).mapToLong(Ice::momentum).sum();
    }

    private int weight(int what) {
        return ice.stream().filter(grain -> is(grain, what)).mapToInt(grain -> grain.mass).sum();
    }

    private String count(int what) {
        int[] all = {ice.size(), many(0), sticks, breaks, bumps, many(1), many(2)};
        return within(what, 0, 6) ? "" + all[what] : ARGUMENT;
    }

    private String sum(int what) {
        int[] all = {weight(0), weight(1), weight(2), putMass};
        return within(what, 0, 3) ? "" + all[what] : ARGUMENT;
    }

    private String momentum(int what) {
        long[] all = {total(0), total(1), total(2), putMomentum, given, heat};
        return within(what, 0, 5) ? "" + all[what] : ARGUMENT;
    }

    private int[] ratio(int[] moon, int lane) {
        int[] best = null;
        for (int p = 9; p >= 1; p--) {
            for (int q = 9; q >= 1; q--) {
                boolean tuned = p != q && Math.abs(p * speed(moon[0]) - q * speed(lane)) <= 20;
                if (tuned && (best == null || Math.abs(p - q) <= Math.abs(best[0] - best[1]))) {
                    best = new int[] {p, q};
                }
            }
        }
        return best;
    }

    private String resonance(int moon, int lane) {
        if (!within(moon, 0, moons.size() - 1)) {
            return NUMBER;
        }
        if (!within(lane, 0, 63)) {
            return ARGUMENT;
        }
        int[] ratio = ratio(moons.get(moon), lane);
        return ratio == null ? "-1" : "" + ratio[0] + ratio[1];
    }

    private List<int[]> gaps() {
        List<int[]> gaps = new ArrayList<>();
        int[] masses = masses();
        for (int from = 1; from < 63; from++) {
            for (int to = from + 1; to < 63; to++) {
                boolean empty = masses[from - 1] > 0 && masses[to + 1] > 0;
                for (int lane = from; lane <= to; lane++) {
                    empty = empty && masses[lane] == 0;
                }
                if (empty) {
                    gaps.add(new int[] {from, to});
                }
            }
        }
        return gaps;
    }

    private boolean keeps(int[] moon, int lane) {
        int[] ratio = ratio(moon, lane);
        return ratio != null && Math.abs(ratio[0] - ratio[1]) <= 2;
    }

    private String gap(int number, int what) {
        List<int[]> gaps = gaps();
        if (!within(number, 0, gaps.size() - 1)) {
            return NUMBER;
        }
        if (!within(what, 0, 2)) {
            return ARGUMENT;
        }
        int[] gap = gaps.get(number);
        if (what < 2) {
            return "" + gap[what];
        }
        for (int i = 0; i < moons.size(); i++) {
            if (within(moons.get(i)[0], gap[0], gap[1])) {
                return "" + i;
            }
        }
        for (int i = 0; i < moons.size(); i++) {
            if (keeps(moons.get(i), gap[0] - 1) || keeps(moons.get(i), gap[1] + 1)) {
                return "" + i;
            }
        }
        return "-1";
    }

    private String framed(int frame, int lane) {
        if (!within(frame, 0, frames.size() - 1)) {
            return NUMBER;
        }
        return within(lane, 0, 63) ? "" + frames.get(frame)[lane] : ARGUMENT;
    }

    private boolean holdsBy(int[] claim, int[] frame) {
        int heaviest = 0;
        for (int lane = claim[1]; lane <= claim[2]; lane++) {
            heaviest = Math.max(heaviest, frame[lane]);
        }
        return heaviest <= claim[3];
    }

    private String holds(int number, int frame) {
        if (!within(number, 0, claims.size() - 1) || !within(frame, -1, frames.size() - 1)) {
            return NUMBER;
        }
        int[] claim = claims.get(number);
        return "" + holdsBy(claim, frames.get(frame == -1 ? claim[0] : frame));
    }

    private String disputes(int number) {
        if (!within(number, 0, claims.size() - 1)) {
            return NUMBER;
        }
        int[] claim = claims.get(number);
        int own = frames.get(claim[0])[64];
        return "" + frames.stream().filter(frame -> frame[64] >= own && !holdsBy(claim, frame)).count();
    }
}
