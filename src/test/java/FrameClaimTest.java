/** Promises 7, 8, 21, 22 and 23: frame, claim, framed, holds, disputes. */
public final class FrameClaimTest {
    private static final int NONE = RingHerd.NONE;

    public static void main(String[] args) {
        promise07Frame();
        promise07Twenty();
        promise08Claim();
        promise08Forty();
        promise08OrderOfExceptions();
        promise21Framed();
        promise22Holds();
        promise22Wrong();
        promise23Disputes();
        promise23SameTick();
        Check.end("FrameClaimTest");
    }

    /** Masses 5 in lane 10, 7 in lane 12 and 9 in lane 63, that never come near to one another. */
    private static RingHerd threeLanes() {
        RingHerd herd = new RingHerd();
        herd.grain(10, 0, 2, 0);
        herd.grain(10, 9000, 3, 0);
        herd.grain(12, 0, 7, 0);
        herd.grain(63, 0, 9, 0);
        return herd;
    }

    private static void promise07Frame() {
        RingHerd herd = threeLanes();
        Check.due("frame()", herd.frame(), 0);
        Check.due("frame() again", herd.frame(), 1);
        herd.tick(1);
        Check.due("frame() later", herd.frame(), 2);
        Check.due("now()", herd.now(), 1);
        RingHerd empty = new RingHerd();
        Check.due("frame() of nothing", empty.frame(), 0);
        Check.due("framed(0, 0)", empty.framed(0, 0), 0);
    }

    private static void promise07Twenty() {
        RingHerd herd = threeLanes();
        for (int i = 0; i < 20; i++) {
            Check.due("frame()", herd.frame(), i);
            herd.grain(0, 450 * i, 1, 0);
        }
        Check.wrongState(herd, "frame() of the 21st", () -> herd.frame());
        Check.due("framed(0, 0)", herd.framed(0, 0), 0);
        Check.due("framed(19, 0)", herd.framed(19, 0), 19);
        int claim = herd.claim(19, 0, 0, 4);
        Check.due("holds by the fifth", herd.holds(claim, 4), true);
        Check.due("holds by the last", herd.holds(claim, 19), false);
        Check.due("disputes of 20 frames", herd.disputes(claim), 15);
        Check.wrongNumber(herd, "framed(20, 0)", () -> herd.framed(20, 0));
    }

    private static void promise08Claim() {
        RingHerd herd = threeLanes();
        herd.frame();
        Check.due("claim(0, 0, 63, 0)", herd.claim(0, 0, 63, 0), 0);
        Check.due("claim(0, 63, 63, 1000000)", herd.claim(0, 63, 63, 1000000), 1);
        Check.due("claim(0, 0, 0, 3)", herd.claim(0, 0, 0, 3), 2);
        Check.due("the first does not hold", herd.holds(0, NONE), false);
        Check.due("the second holds", herd.holds(1, NONE), true);
        Check.due("the third holds", herd.holds(2, NONE), true);
        wrongClaims(herd);
    }

    private static void wrongClaims(RingHerd herd) {
        for (int frame : new int[] {-1, -2, 1, 20, Integer.MIN_VALUE, Integer.MAX_VALUE}) {
            Check.wrongNumber(herd, "claim of frame " + frame, () -> herd.claim(frame, 0, 0, 0));
        }
        for (int from : new int[] {-1, 64, Integer.MIN_VALUE, Integer.MAX_VALUE}) {
            Check.wrongArgument(herd, "claim from " + from, () -> herd.claim(0, from, 63, 0));
        }
        Check.wrongArgument(herd, "claim from and to 64", () -> herd.claim(0, 64, 64, 0));
        for (int to : new int[] {-1, 29, 64, Integer.MIN_VALUE, Integer.MAX_VALUE}) {
            Check.wrongArgument(herd, "claim from 30 to " + to, () -> herd.claim(0, 30, to, 0));
        }
        for (int most : new int[] {-1, 1000001, Integer.MIN_VALUE, Integer.MAX_VALUE}) {
            Check.wrongArgument(herd, "claim of most " + most, () -> herd.claim(0, 0, 63, most));
        }
    }

    private static void promise08Forty() {
        RingHerd herd = threeLanes();
        herd.frame();
        for (int i = 0; i < 40; i++) {
            Check.due("claim", herd.claim(0, i, 63, i), i);
        }
        Check.wrongState(herd, "claim of the 41st", () -> herd.claim(0, 0, 63, 0));
        wrongClaims(herd);
        Check.wrongNumber(herd, "disputes(40)", () -> herd.disputes(40));
    }

    private static void promise08OrderOfExceptions() {
        RingHerd herd = threeLanes();
        Check.wrongNumber(herd, "no frame, and all wrong", () -> herd.claim(0, -1, -2, -3));
        herd.frame();
        for (int i = 0; i < 40; i++) {
            herd.claim(0, 0, 0, 0);
        }
        Check.wrongNumber(herd, "no such frame, all wrong, and 40", () -> herd.claim(1, -1, -2, -3));
        Check.wrongArgument(herd, "all wrong, and 40", () -> herd.claim(0, -1, -2, -3));
    }

    private static void promise21Framed() {
        RingHerd herd = threeLanes();
        herd.frame();
        herd.grain(12, 18000, 1, 0);
        herd.frame();
        for (int lane = 0; lane < 64; lane++) {
            int first = lane == 10 ? 5 : lane == 12 ? 7 : lane == 63 ? 9 : 0;
            Check.due("framed(0, " + lane + ")", herd.framed(0, lane), first);
            Check.due("framed(1, " + lane + ")", herd.framed(1, lane), lane == 12 ? 8 : first);
        }
        for (int frame : new int[] {-1, 2, Integer.MIN_VALUE, Integer.MAX_VALUE}) {
            Check.wrongNumber(herd, "framed(" + frame + ", 0)", () -> herd.framed(frame, 0));
            Check.wrongNumber(herd, "framed(" + frame + ", 64)", () -> herd.framed(frame, 64));
        }
        for (int lane : new int[] {-1, 64, Integer.MIN_VALUE, Integer.MAX_VALUE}) {
            Check.wrongArgument(herd, "framed(0, " + lane + ")", () -> herd.framed(0, lane));
        }
        RingHerd lost = new RingHerd();
        lost.grain(0, 0, 6, 30);
        lost.grain(0, 0, 4, 30);
        lost.tick(1);
        lost.frame();
        Check.due("what rained is in no lane", lost.framed(0, 0), 0);
        Check.due("what is there is", lost.framed(0, 1), 4);
    }

    private static void promise22Holds() {
        RingHerd herd = threeLanes();
        herd.frame();
        int[][] claims = {{10, 10, 5, 1}, {10, 10, 4, 0}, {10, 12, 7, 1}, {10, 12, 6, 0}, {11, 11, 0, 1},
            {13, 62, 0, 1}, {13, 63, 0, 0}, {13, 63, 8, 0}, {13, 63, 9, 1}, {0, 9, 0, 1}, {0, 10, 4, 0},
            {11, 12, 6, 0}, {0, 63, 9, 1}, {0, 63, 20, 1}};
        for (int i = 0; i < claims.length; i++) {
            herd.claim(0, claims[i][0], claims[i][1], claims[i][2]);
            Check.due("claim " + i + " by its own", herd.holds(i, NONE), claims[i][3] == 1);
            Check.due("claim " + i + " by frame 0", herd.holds(i, 0), claims[i][3] == 1);
        }
        herd.grain(11, 18000, 1, 0);
        herd.frame();
        Check.due("claim 4 by its own", herd.holds(4, NONE), true);
        Check.due("claim 4 by frame 1", herd.holds(4, 1), false);
        Check.due("claim 2 by frame 1", herd.holds(2, 1), true);
        int later = herd.claim(1, 11, 11, 0);
        Check.due("a claim of frame 1 by its own", herd.holds(later, NONE), false);
        Check.due("a claim of frame 1 by frame 0", herd.holds(later, 0), true);
        Check.due("a claim of frame 1 by frame 1", herd.holds(later, 1), false);
    }

    private static void promise22Wrong() {
        RingHerd herd = threeLanes();
        herd.frame();
        herd.claim(0, 0, 0, 0);
        for (int claim : new int[] {-1, 1, 40, Integer.MIN_VALUE, Integer.MAX_VALUE}) {
            Check.wrongNumber(herd, "holds(" + claim + ", NONE)", () -> herd.holds(claim, NONE));
            Check.wrongNumber(herd, "holds(" + claim + ", 0)", () -> herd.holds(claim, 0));
            Check.wrongNumber(herd, "disputes(" + claim + ")", () -> herd.disputes(claim));
        }
        for (int frame : new int[] {-2, 1, 20, Integer.MIN_VALUE, Integer.MAX_VALUE}) {
            Check.wrongNumber(herd, "holds(0, " + frame + ")", () -> herd.holds(0, frame));
        }
    }

    private static void promise23Disputes() {
        RingHerd herd = new RingHerd();
        herd.grain(10, 0, 50, 0);
        herd.frame();
        herd.tick(1);
        herd.frame();
        herd.tick(1);
        herd.frame();
        herd.grain(12, 0, 60, 0);
        herd.tick(1);
        herd.frame();
        int none = herd.claim(0, 0, 63, 60);
        int two = herd.claim(1, 10, 10, 49);
        int all = herd.claim(0, 10, 12, 0);
        int last = herd.claim(0, 0, 63, 59);
        int lastOfItsOwn = herd.claim(3, 0, 63, 59);
        Check.due("disputes of 60 at most", herd.disputes(none), 0);
        Check.due("disputes of its own tick and later", herd.disputes(two), 3);
        Check.due("disputes of every frame", herd.disputes(all), 4);
        Check.due("disputes of the last frame", herd.disputes(last), 1);
        Check.due("disputes of its own frame", herd.disputes(lastOfItsOwn), 1);
        herd.grain(20, 0, 61, 0);
        Check.due("no frame, no dispute", herd.disputes(none), 0);
        herd.frame();
        Check.due("a new frame disputes it", herd.disputes(none), 1);
        Check.due("and the others", herd.disputes(all), 5);
    }

    private static void promise23SameTick() {
        RingHerd herd = new RingHerd();
        herd.grain(10, 0, 50, 0);
        herd.frame();
        herd.tick(3);
        herd.frame();
        herd.frame();
        herd.tick(1);
        int claim = herd.claim(2, 10, 10, 0);
        herd.frame();
        // Its own tick is the one of its frame: the frame 1 of that tick counts, the frame 0 does not.
        Check.due("disputes by frames 1 to 3", herd.disputes(claim), 3);
    }
}
