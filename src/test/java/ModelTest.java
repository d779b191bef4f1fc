import java.util.Arrays;
import java.util.Random;

/** All promises: runs of up to 512 calls, drawn by fixed seeds, each answer held against the plain model's. */
public final class ModelTest {
    private static final int RUNS = 400;
    private static final int CALLS = 512;
    private static final String[] TELLING = {"grain", "grain", "grain", "grain", "grain", "moon", "flatness",
        "bounds", "tick", "tick", "tick", "tick", "frame", "claim"};
    private static final String[] ASKING = {"now", "told", "told", "told", "told", "angle", "speed", "count",
        "count", "mass", "sum", "momentum", "momentum", "momentumByLanes", "resonance", "gap", "gap", "gaps",
        "framed", "holds", "disputes"};

    private final Random draw;
    private final RingHerd herd = new RingHerd();
    private final RingModel model = new RingModel();
    private final int firstLane;
    private final int lanes;
    private final int angles;
    private final int mostTicks;

    private ModelTest(int seed) {
        draw = new Random(seed);
        // Many grains in few lanes meet often; some runs lie at the first or the last lane, and lose grains.
        lanes = 1 + draw.nextInt(seed % 4 == 0 ? 64 : 8);
        int inner = draw.nextInt(65 - lanes);
        firstLane = seed % 5 == 0 ? 0 : seed % 5 == 1 ? 64 - lanes : inner;
        angles = seed % 3 == 0 ? 36000 : 200 + draw.nextInt(3000);
        mostTicks = seed % 7 == 0 ? 50 : 1 + draw.nextInt(6);
    }

    public static void main(String[] args) {
        long[] happened = new long[7];
        for (int seed = 0; seed < RUNS; seed++) {
            ModelTest run = new ModelTest(seed);
            run.play(seed);
            for (int what = 0; what < 7; what++) {
                happened[what] += run.herd.count(what);
            }
        }
        for (int what = 0; what < 7; what++) {
            Check.due("enough of what count(" + what + ") counts", happened[what] > 200, true);
        }
        Check.end("ModelTest");
    }

    private void play(int seed) {
        for (int i = 0; i < CALLS; i++) {
            boolean telling = draw.nextInt(3) == 0;
            String call = telling ? oneOf(TELLING) : oneOf(ASKING);
            int[] arguments = draw.nextInt(40) == 0 ? wrong() : usual(call);
            String name = "run " + seed + ", call " + i + ": " + call + Arrays.toString(arguments);
            Check.due(name, asked(call, arguments), model.answer(call, arguments));
        }
        // Mass and momentum are kept but for losses that are told.
        Check.due("mass of run " + seed, herd.sum(0) + herd.sum(1) + herd.sum(2), herd.sum(3));
        Check.due("momentum of run " + seed, herd.momentum(0) + herd.momentum(1) + herd.momentum(2) + herd.momentum(5),
            herd.momentum(3) + herd.momentum(4));
        Check.due("momentumByLanes of run " + seed, herd.momentumByLanes(), herd.momentum(0));
    }

    private String oneOf(String[] calls) {
        return calls[draw.nextInt(calls.length)];
    }

    private int[] wrong() {
        int[] edges = {Integer.MIN_VALUE, -2, -1, 0, 1, 6, 20, 40, 50, 51, 63, 64, 80, 99, 100, 101, 1000, 1001,
            5000, 5001, 10000, 10001, 35999, 36000, 1000000, 1000001, Integer.MAX_VALUE};
        int[] arguments = new int[4];
        for (int i = 0; i < 4; i++) {
            arguments[i] = edges[draw.nextInt(edges.length)];
        }
        return arguments;
    }

    /** Arguments that mostly fit; numbers may be one too high. */
    private int[] usual(String call) {
        switch (call) {
            case "grain":
                return new int[] {lane(), draw.nextInt(angles), draw.nextInt(3) == 0 ? 1 + draw.nextInt(3)
                    : 1 + draw.nextInt(10000), draw.nextInt(100)};
            case "moon":
                return new int[] {lane(), draw.nextInt(36000), 1 + draw.nextInt(10000), 0};
            case "flatness":
                return new int[] {draw.nextInt(1001), 0, 0, 0};
            case "bounds":
                int first = draw.nextInt(120);
                return new int[] {first, first + draw.nextInt(120), draw.nextInt(101), 0};
            case "tick":
                return new int[] {1 + draw.nextInt(mostTicks), 0, 0, 0};
            case "claim":
                int from = draw.nextInt(64);
                int most = draw.nextInt(2) == 0 ? 0 : draw.nextInt(20000);
                return new int[] {draw.nextInt(21), from, from + draw.nextInt(64 - from), most};
            case "told":
                return new int[] {draw.nextInt(81), draw.nextInt(6), 0, 0};
            case "gap":
                return new int[] {draw.nextInt(4), draw.nextInt(3), 0, 0};
            case "framed":
                return new int[] {draw.nextInt(21), lane(), 0, 0};
            case "holds":
                return new int[] {draw.nextInt(20), draw.nextInt(22) - 1, 0, 0};
            case "disputes":
                return new int[] {draw.nextInt(20), 0, 0, 0};
            case "speed":
            case "mass":
                return new int[] {lane(), 0, 0, 0};
            default:
                return new int[] {draw.nextInt(7), draw.nextInt(64), 0, 0};
        }
    }

    private int lane() {
        return firstLane + draw.nextInt(lanes);
    }

    private String asked(String call, int[] a) {
        String[] answer = new String[1];
        String thrown = Check.thrownBy(() -> answer[0] = answered(call, a));
        return thrown.equals("nothing") ? answer[0] : thrown;
    }

    private String answered(String call, int[] a) {
        switch (call) {
            case "grain": return "" + herd.grain(a[0], a[1], a[2], a[3]);
            case "moon": return "" + herd.moon(a[0], a[1], a[2]);
            case "flatness": return "" + herd.flatness(a[0]);
            case "bounds":
                herd.bounds(a[0], a[1], a[2]);
                return "void";
            case "tick": return "" + herd.tick(a[0]);
            case "frame": return "" + herd.frame();
            case "claim": return "" + herd.claim(a[0], a[1], a[2], a[3]);
            case "now": return "" + herd.now();
            case "told": return "" + herd.told(a[0], a[1]);
            case "angle": return "" + herd.angle(a[0]);
            case "speed": return "" + herd.speed(a[0]);
            case "count": return "" + herd.count(a[0]);
            case "mass": return "" + herd.mass(a[0]);
            case "sum": return "" + herd.sum(a[0]);
            case "momentum": return "" + herd.momentum(a[0]);
            case "momentumByLanes": return "" + herd.momentumByLanes();
            case "resonance": return "" + herd.resonance(a[0], a[1]);
            case "gap": return "" + herd.gap(a[0], a[1]);
            case "gaps": return "" + herd.gaps();
            case "framed": return "" + herd.framed(a[0], a[1]);
            case "holds": return "" + herd.holds(a[0], a[1]);
            case "disputes": return "" + herd.disputes(a[0]);
            default: throw new UnsupportedOperationException(call);
        }
    }
}
