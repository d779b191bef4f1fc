/** Promise 1: a new object. */
public final class NewObjectTest {
    public static void main(String[] args) {
        RingHerd herd = new RingHerd();
        Check.due("NONE", RingHerd.NONE, -1);
        Check.due("now()", herd.now(), 0);
        Check.due("gaps()", herd.gaps(), 0);
        Check.counts("new", herd, 0, 0, 0, 0, 0, 0, 0);
        Check.sums("new", herd, 0, 0, 0, 0);
        Check.momenta("new", herd, 0, 0, 0, 0, 0, 0);
        for (int lane = 0; lane < 64; lane++) {
            Check.due("mass of lane " + lane, herd.mass(lane), 0);
        }
        Check.wrongNumber(herd, "told(0, 0)", () -> herd.told(0, 0));
        Check.wrongNumber(herd, "angle(0)", () -> herd.angle(0));
        Check.wrongNumber(herd, "resonance(0, 0)", () -> herd.resonance(0, 0));
        Check.wrongNumber(herd, "gap(0, 0)", () -> herd.gap(0, 0));
        Check.wrongNumber(herd, "framed(0, 0)", () -> herd.framed(0, 0));
        Check.wrongNumber(herd, "holds(0, NONE)", () -> herd.holds(0, RingHerd.NONE));
        Check.wrongNumber(herd, "disputes(0)", () -> herd.disputes(0));
        Check.due("flatness(0)", herd.flatness(0), 0);
        twoObjectsShareNothing();
        Check.end("NewObjectTest");
    }

    private static void twoObjectsShareNothing() {
        RingHerd told = new RingHerd();
        RingHerd quiet = new RingHerd();
        String before = Check.stateOf(quiet);
        told.grain(3, 0, 7, 1);
        told.moon(3, 0, 7);
        told.flatness(500);
        told.frame();
        told.claim(0, 0, 63, 0);
        told.tick(5);
        Check.due("the other object", Check.stateOf(quiet), before);
        Check.due("a later object", Check.stateOf(new RingHerd()), before);
    }
}
