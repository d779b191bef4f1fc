import java.util.function.Consumer;

/** Calls that are refused, and what would tell if one of them had changed something. */
final class Refusals {
    private static final int LEAST = Integer.MIN_VALUE;
    private static final int MOST = Integer.MAX_VALUE;
    private static final int[][] WRONG_GRAINS = {{-1, 0, 1, 0}, {64, 0, 1, 0}, {10, -1, 1, 0}, {10, 36000, 1, 0},
        {10, 0, 0, 0}, {10, 0, 10001, 0}, {10, 0, 1, -1}, {10, 0, 1, 100}, {LEAST, MOST, LEAST, MOST}};
    private static final int[][] WRONG_MOONS = {{-1, 0, 1}, {64, 0, 1}, {10, -1, 1}, {10, 36000, 1}, {10, 0, 0},
        {10, 0, 10001}, {MOST, LEAST, MOST}};
    private static final int[][] WRONG_BOUNDS = {{-1, 90, 10}, {1001, 2000, 10}, {30, 29, 10}, {30, 5001, 10},
        {30, 90, -1}, {30, 90, 101}, {MOST, LEAST, MOST}};
    private static final int[][] WRONG_CLAIMS = {{-1, 0, 0, 0}, {20, 0, 0, 0}, {0, -1, 0, 0}, {0, 64, 64, 0},
        {0, 9, 8, 0}, {0, 9, 64, 0}, {0, 9, 9, -1}, {0, 9, 9, 1000001}, {MOST, MOST, LEAST, LEAST}};
    private static final int[] WRONG_NUMBERS = {-2, 80, LEAST, MOST};

    private Refusals() {
    }

    /** A herd that is full: 80 grains, 6 moons, 20 frames, 40 claims, the tick 1990; some 190 calls. */
    static RingHerd full() {
        RingHerd herd = new RingHerd();
        for (int i = 0; i < 39; i++) {
            herd.tick(50);
        }
        herd.tick(40);
        for (int i = 0; i < 80; i++) {
            herd.grain(12 + 3 * (i % 13), 450 * i, 5 + i, 0);
        }
        for (int i = 0; i < 6; i++) {
            herd.moon(15 + 8 * i, 6000 * i, 400);
        }
        for (int i = 0; i < 20; i++) {
            herd.frame();
        }
        for (int i = 0; i < 40; i++) {
            herd.claim(i % 20, i, 63, 300);
        }
        return herd;
    }

    static void changeNothing() {
        String due = littleStory(herd -> { });
        eachWrongCall((exception, call) -> {
            Check.due("the story of a little herd after a refused call", littleStory(herd -> {
                Check.throwsJust(exception, "a wrong call", () -> call.accept(herd));
            }), due);
        });
        String dueOfFull = fullStory(herd -> { });
        eachRefusedByFull((exception, call) -> {
            Check.due("the story of a full herd after a refused call", fullStory(herd -> {
                Check.throwsJust(exception, "a call of a full herd", () -> call.accept(herd));
            }), dueOfFull);
        });
    }

    private interface Refused {
        void by(String exception, Consumer<RingHerd> call);
    }

    private static void eachWrongCall(Refused refused) {
        for (int[] a : WRONG_GRAINS) {
            refused.by(Sentence.ARGUMENT, herd -> herd.grain(a[0], a[1], a[2], a[3]));
        }
        for (int[] a : WRONG_MOONS) {
            refused.by(Sentence.ARGUMENT, herd -> herd.moon(a[0], a[1], a[2]));
        }
        for (int flatness : new int[] {-1, 1001, LEAST, MOST}) {
            refused.by(Sentence.ARGUMENT, herd -> herd.flatness(flatness));
        }
        for (int[] a : WRONG_BOUNDS) {
            refused.by(Sentence.ARGUMENT, herd -> herd.bounds(a[0], a[1], a[2]));
        }
        for (int ticks : new int[] {0, -1, 51, LEAST, MOST}) {
            refused.by(Sentence.ARGUMENT, herd -> herd.tick(ticks));
        }
        for (int i = 0; i < WRONG_CLAIMS.length; i++) {
            int[] a = WRONG_CLAIMS[i];
            boolean noFrame = a[0] < 0 || a[0] >= 20;
            refused.by(noFrame ? Sentence.NUMBER : Sentence.ARGUMENT, herd -> herd.claim(a[0], a[1], a[2], a[3]));
        }
        eachWrongQuestion(refused);
    }

    private static void eachWrongQuestion(Refused refused) {
        for (int number : WRONG_NUMBERS) {
            refused.by(Sentence.NUMBER, herd -> herd.told(number, 0));
            refused.by(Sentence.NUMBER, herd -> herd.angle(number));
            refused.by(Sentence.NUMBER, herd -> herd.resonance(number, 0));
            refused.by(Sentence.NUMBER, herd -> herd.gap(number, 0));
            refused.by(Sentence.NUMBER, herd -> herd.framed(number, 0));
            refused.by(Sentence.NUMBER, herd -> herd.holds(number, RingHerd.NONE));
            refused.by(Sentence.NUMBER, herd -> herd.holds(0, number));
            refused.by(Sentence.NUMBER, herd -> herd.disputes(number));
            refused.by(Sentence.ARGUMENT, herd -> herd.told(0, number));
            refused.by(Sentence.ARGUMENT, herd -> herd.speed(number));
            refused.by(Sentence.ARGUMENT, herd -> herd.count(number));
            refused.by(Sentence.ARGUMENT, herd -> herd.mass(number));
            refused.by(Sentence.ARGUMENT, herd -> herd.sum(number));
            refused.by(Sentence.ARGUMENT, herd -> herd.momentum(number));
            refused.by(Sentence.ARGUMENT, herd -> herd.resonance(0, number));
            refused.by(Sentence.ARGUMENT, herd -> herd.gap(0, number));
            refused.by(Sentence.ARGUMENT, herd -> herd.framed(0, number));
        }
    }

    private static void eachRefusedByFull(Refused refused) {
        refused.by(Sentence.STATE, herd -> herd.grain(10, 0, 1, 0));
        refused.by(Sentence.STATE, herd -> herd.moon(10, 0, 1));
        refused.by(Sentence.STATE, herd -> herd.tick(11));
        refused.by(Sentence.STATE, herd -> herd.tick(50));
        refused.by(Sentence.STATE, herd -> herd.frame());
        refused.by(Sentence.STATE, herd -> herd.claim(0, 0, 0, 0));
        refused.by(Sentence.ARGUMENT, herd -> herd.grain(10, 0, 0, 0));
        refused.by(Sentence.ARGUMENT, herd -> herd.moon(10, 0, 0));
        refused.by(Sentence.ARGUMENT, herd -> herd.tick(51));
        refused.by(Sentence.ARGUMENT, herd -> herd.claim(0, 0, 64, 0));
        refused.by(Sentence.NUMBER, herd -> herd.claim(20, 0, 0, 0));
    }

    /**
     * What a little herd answers after this call: some 400 answers, those of its next tellings too. Its grains
     * meet just above the first bound, just above the second one, and between both.
     */
    private static String littleStory(Consumer<RingHerd> call) {
        RingHerd herd = new RingHerd();
        herd.flatness(100);
        herd.bounds(21, 81, 49);
        herd.grain(10, 0, 8, 30);
        herd.grain(10, 40, 5, 20);
        herd.grain(20, 0, 9, 13);
        herd.grain(20, 0, 7, 9);
        herd.grain(40, 0, 9, 41);
        herd.grain(40, 0, 7, 41);
        herd.moon(30, 0, 400);
        herd.frame();
        herd.claim(0, 10, 20, 12);
        call.accept(herd);
        StringBuilder story = new StringBuilder();
        look(herd, 6, 1, story);
        story.append(herd.tick(2));
        look(herd, 6, 1, story);
        story.append(herd.grain(45, 0, 3, 0)).append(herd.moon(12, 0, 3)).append(herd.frame());
        story.append(herd.claim(0, 0, 63, 16)).append(herd.flatness(0));
        look(herd, 8, 2, story);
        return story.toString();
    }

    /** What a full herd answers after this call: with what made it some 450 calls. */
    private static String fullStory(Consumer<RingHerd> call) {
        RingHerd herd = full();
        call.accept(herd);
        StringBuilder story = new StringBuilder();
        look(herd, 4, 6, story);
        story.append(herd.tick(10));
        look(herd, 4, 6, story);
        return story.toString();
    }

    private static void look(RingHerd herd, int grains, int moons, StringBuilder story) {
        story.append('\n').append(herd.now()).append(" counts");
        for (int what = 0; what < 7; what++) {
            story.append(' ').append(herd.count(what));
        }
        story.append(" sums");
        for (int what = 0; what < 4; what++) {
            story.append(' ').append(herd.sum(what));
        }
        story.append(" momenta");
        for (int what = 0; what < 6; what++) {
            story.append(' ').append(herd.momentum(what));
        }
        story.append(' ').append(herd.momentumByLanes()).append(" lanes");
        for (int lane : new int[] {9, 10, 11, 12, 20, 39, 40, 41}) {
            story.append(' ').append(herd.mass(lane)).append(' ').append(herd.framed(0, lane));
        }
        for (int grain = 0; grain < grains; grain++) {
            story.append(" grain");
            for (int what = 0; what < 6; what++) {
                story.append(' ').append(herd.told(grain, what));
            }
        }
        story.append(" moons");
        for (int moon = 0; moon < moons; moon++) {
            story.append(' ').append(herd.angle(moon)).append(' ').append(herd.resonance(moon, 10));
        }
        story.append(" gaps ").append(herd.gaps()).append(' ').append(herd.gap(0, 0)).append(' ');
        story.append(herd.gap(0, 1)).append(' ').append(herd.gap(0, 2)).append(" speed ").append(herd.speed(0));
        story.append(" claim ").append(herd.holds(0, RingHerd.NONE)).append(herd.disputes(0));
    }
}
