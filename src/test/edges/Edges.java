import java.math.BigInteger;
import java.util.ArrayList;
import java.util.List;
import java.util.Map;
import java.util.TreeMap;

/** What the cases share: each stands under the words of the document that it is about, and has a new bench. */
abstract class Edges {
    static final int BAD = -1, NO = -2, FULL = -3, NONE = -4, BIG = -5;
    static final long BAD_PART = -1000000000000000L;
    static final int BAD_AGAINST = -9;
    static final int LEAST = Integer.MIN_VALUE;
    static final int GREATEST = Integer.MAX_VALUE;
    static final BigInteger MILLION_MILLIONS = BigInteger.TEN.pow(12);
    static final String E12 = "1000000000000";
    static final String E24 = "1000000000000000000000000";
    static final String E24_LESS_1 = "999999999999999999999999";
    /** The sections of the document: 1 to 22 are the promises. */
    static final int HEAD = -1, TERMS = 0;

    /** So many failures of one case are told; the others are only counted. */
    private static final int MOST_TOLD = 5;

    static final Map<Integer, List<String>> told = new TreeMap<>();
    static int cases;
    static int passed;
    static int failed;

    Bench x = new Bench();
    private String words = "";
    private int checksBefore;
    private int failedHere;

    interface Call {
        long at(int value);
    }

    abstract void go();

    /** Begins a case: the checks that follow are about these words of that section. */
    final void told(int section, String words) {
        end();
        told.computeIfAbsent(section, s -> new ArrayList<>()).add(words);
        this.words = (section > 0 ? "promise " + section + " " : "") + "'" + words + "'";
        x = new Bench();
        cases++;
        checksBefore = passed + failed;
        failedHere = 0;
    }

    final void end() {
        if (!words.isEmpty() && passed + failed == checksBefore) {
            fail("nothing is checked");
        }
        if (x.calls > Bench.MOST_CALLS) {
            fail(x.calls + " calls, and the document promises " + Bench.MOST_CALLS);
        }
    }

    private void fail(String what) {
        failed++;
        failedHere++;
        if (failedHere <= MOST_TOLD) {
            System.out.println(words + ": " + what);
        }
    }

    final void due(long want, long got) {
        if (want == got) {
            passed++;
        } else {
            fail(x.latest + " answered " + got + ", due is " + want);
        }
    }

    final void each(long want, Call call, int... values) {
        for (int value : values) {
            due(want, call.at(value));
        }
    }

    /** Boxes with so many ports, from 0 on. */
    final void boxes(int... ports) {
        for (int of : ports) {
            x.box(of);
        }
    }

    static int[] n(int p, int q, int r) {
        return new int[] {p, q, r};
    }

    static int[] n(int p) {
        return n(p, 0, 1);
    }

    final void entry(int box, int i, int j, int[] s) {
        due(0, x.all(box, i, j, s[0], s[1], s[2]));
    }

    final void two(int box, int[] s00, int[] s01, int[] s10, int[] s11) {
        entry(box, 0, 0, s00);
        entry(box, 0, 1, s01);
        entry(box, 1, 0, s10);
        entry(box, 1, 1, s11);
    }

    final void one(int box, int[] s) {
        entry(box, 0, 0, s);
    }

    /** S01 and S10 become what they are times itself, so often; S00 and S11 are 0. */
    final void powers(int box, int[] s, int squares) {
        two(box, n(0), s, s, n(0));
        for (int k = 0; k < squares; k++) {
            due(0, x.join(box, box, box));
        }
    }

    final void holds(int box, int tone, int i, int j, String p, String q, String r) {
        String[] parts = {p, q, r};
        for (int k = 0; k < 3; k++) {
            BigInteger[] cut = new BigInteger(parts[k]).divideAndRemainder(MILLION_MILLIONS);
            due(cut[0].longValueExact(), x.part(box, tone, i, j, 2 * k));
            due(cut[1].longValueExact(), x.part(box, tone, i, j, 2 * k + 1));
        }
    }

    final void holds(int box, int tone, int i, int j, long p, long q, long r) {
        holds(box, tone, i, j, Long.toString(p), Long.toString(q), Long.toString(r));
    }

    final void holdsAtAll(int box, int i, int j, String p, String q, String r) {
        for (int tone = 0; tone < 4; tone++) {
            holds(box, tone, i, j, p, q, r);
        }
    }

    final void holdsAtAll(int box, int i, int j, long p, long q, long r) {
        holdsAtAll(box, i, j, Long.toString(p), Long.toString(q), Long.toString(r));
    }

    /** At one tone: S00, S01, S10, S11, each p, q, r. */
    final void holdsTwo(int box, int tone, int[] s00, int[] s01, int[] s10, int[] s11) {
        int[][] s = {s00, s01, s10, s11};
        for (int k = 0; k < 4; k++) {
            holds(box, tone, k / 2, k % 2, s[k][0], s[k][1], s[k][2]);
        }
    }

    /** All that is told of the bench, but for what is above a million millions. */
    final String state() {
        StringBuilder text = new StringBuilder();
        text.append(x.count(1)).append(" where ").append(x.where(0)).append(' ').append(x.where(1));
        int boxes = x.count(0);
        for (int box = 0; box < boxes; box++) {
            int ports = x.about(box, 0);
            text.append(" / ").append(ports);
            for (int k = 0; k < 4 * ports * ports; k++) {
                int entry = k / 4;
                for (int what = 1; what < 6; what += 2) {
                    text.append(' ').append(x.part(box, k % 4, entry / ports, entry % ports, what));
                }
            }
        }
        return text.toString();
    }

    final void unchanged(String before) {
        String after = state();
        if (after.equals(before)) {
            passed++;
        } else {
            fail("was " + before + ", is " + after);
        }
    }

    final void where(int tone, int divisor) {
        due(tone, x.where(0));
        due(divisor, x.where(1));
    }
}
