import java.util.Arrays;

/** What the tests share: it compares answers with those that are due, and counts the wrong ones. */
final class Check {
    private static int made = 0;
    private static int wrong = 0;

    private Check() {
    }

    static void due(String call, long got, long want) {
        made++;
        if (got != want) {
            wrong++;
            System.out.println(call + " answered " + got + ", due is " + want);
        }
    }

    static void due(String call, boolean got, boolean want) {
        due(call, got ? 1 : 0, want ? 1 : 0);
    }

    static void due(String call, String got, String want) {
        made++;
        if (!got.equals(want)) {
            wrong++;
            System.out.println(call + " answered " + got + ", due is " + want);
        }
    }

    /** Tells the exception of a call by its exact class; none is "nothing". */
    static String thrownBy(Runnable call) {
        try {
            call.run();
            return "nothing";
        } catch (RuntimeException e) {
            return e.getClass().getSimpleName();
        }
    }

    /** The call is due to throw just that exception. */
    static void throwsJust(String exception, String name, Runnable call) {
        due(name + " throws", thrownBy(call), exception);
    }

    static int madeSoFar() {
        return made;
    }

    static int wrongSoFar() {
        return wrong;
    }

    /** The call is due to throw just that exception, and to change nothing of the herd. */
    static void refused(RingHerd herd, String exception, String name, Runnable call) {
        String before = stateOf(herd);
        due(name + " throws", thrownBy(call), exception);
        due(name + " leaves", stateOf(herd), before);
    }

    static void wrongArgument(RingHerd herd, String name, Runnable call) {
        refused(herd, "IllegalArgumentException", name, call);
    }

    static void wrongNumber(RingHerd herd, String name, Runnable call) {
        refused(herd, "IndexOutOfBoundsException", name, call);
    }

    static void wrongState(RingHerd herd, String name, Runnable call) {
        refused(herd, "IllegalStateException", name, call);
    }

    /**
     * Every answer that an object can give, but for those of wrong arguments. These are more calls than
     * the document promises for one object; this class keeps no count of its calls, so they are still due.
     */
    static String stateOf(RingHerd herd) {
        StringBuilder all = new StringBuilder("tick ").append(herd.now());
        all.append(" counts ").append(answers(7, herd::count));
        all.append(" sums ").append(answers(4, herd::sum));
        all.append(" momenta ");
        for (int what = 0; what < 6; what++) {
            all.append(herd.momentum(what)).append(' ');
        }
        all.append(herd.momentumByLanes());
        all.append(" lanes ").append(answers(64, herd::mass));
        all.append(" speeds ").append(answers(64, herd::speed));
        for (int i = 0; i < herd.count(0); i++) {
            int grain = i;
            all.append(" grain ").append(answers(6, what -> herd.told(grain, what)));
        }
        for (int i = 0; thrownBy(moonOf(herd, i)).equals("nothing"); i++) {
            int moon = i;
            all.append(" moon ").append(herd.angle(i)).append(answers(64, lane -> herd.resonance(moon, lane)));
        }
        for (int i = 0; i < herd.gaps(); i++) {
            int gap = i;
            all.append(" gap ").append(answers(3, what -> herd.gap(gap, what)));
        }
        int frames = 0;
        for (; thrownBy(frameOf(herd, frames)).equals("nothing"); frames++) {
            int frame = frames;
            all.append(" frame ").append(answers(64, lane -> herd.framed(frame, lane)));
        }
        for (int i = 0; thrownBy(claimOf(herd, i)).equals("nothing"); i++) {
            int claim = i;
            all.append(" claim ").append(herd.disputes(i)).append(herd.holds(i, RingHerd.NONE));
            all.append(answers(frames, frame -> herd.holds(claim, frame) ? 1 : 0));
        }
        return all.toString();
    }

    private static Runnable moonOf(RingHerd herd, int number) {
        return () -> herd.angle(number);
    }

    private static Runnable frameOf(RingHerd herd, int number) {
        return () -> herd.framed(number, 0);
    }

    private static Runnable claimOf(RingHerd herd, int number) {
        return () -> herd.disputes(number);
    }

    private interface Question {
        int ask(int what);
    }

    private static String answers(int count, Question question) {
        int[] answers = new int[count];
        for (int i = 0; i < count; i++) {
            answers[i] = question.ask(i);
        }
        return Arrays.toString(answers);
    }

    /** A grain's lane, angle, mass, unrest, darkness, and whether it is there. */
    static void grain(String when, RingHerd herd, int number, int... want) {
        int[] got = new int[6];
        for (int what = 0; what < 6; what++) {
            got[what] = herd.told(number, what);
        }
        due(when + ": grain " + number, Arrays.toString(got), Arrays.toString(want));
    }

    /** Grains that were ever, are there, stuck, broke, bumped, rained, escaped. */
    static void counts(String when, RingHerd herd, int... want) {
        int[] got = new int[7];
        for (int what = 0; what < 7; what++) {
            got[what] = herd.count(what);
        }
        due(when + ": counts", Arrays.toString(got), Arrays.toString(want));
    }

    /** The masses of those that are there, rained, escaped, and were put. */
    static void sums(String when, RingHerd herd, int... want) {
        int[] got = new int[4];
        for (int what = 0; what < 4; what++) {
            got[what] = herd.sum(what);
        }
        due(when + ": sums", Arrays.toString(got), Arrays.toString(want));
    }

    /** The momenta of those that are there, rained, escaped, were put, what moons gave, and the heat. */
    static void momenta(String when, RingHerd herd, long... want) {
        long[] got = new long[6];
        for (int what = 0; what < 6; what++) {
            got[what] = herd.momentum(what);
        }
        due(when + ": momenta", Arrays.toString(got), Arrays.toString(want));
        due(when + ": momentumByLanes()", herd.momentumByLanes(), want[0]);
    }

    /** Says how it went, and ends the test with 1 if an answer was wrong. */
    static void end(String test) {
        System.out.println(test + ": " + made + " looked at, " + wrong + " wrong");
        if (wrong != 0 || made == 0) {
            System.exit(1);
        }
    }
}
