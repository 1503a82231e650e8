/** A bench for boxes with ports, at four tones, in exact numbers; ../shared/DOC.md says what it promises. */
public final class PortsBench {
    public static final int BAD = -1, NO = -2, FULL = -3, NONE = -4, BIG = -5;

    private static final int BAD_AGAINST = -9;
    private static final long BAD_PART = -1000000000000000L;
    private static final int MOST_BOXES = 16;
    private static final int MOST_ACTS = 16;
    private static final int MOST_GIVEN = 1000000;
    private static final int MOST_STUFF = 10000;
    private static final int TONES = 4;
    private static final int ENTRIES = 4;

    // Limbs of nine digits: three of them hold what a box may hold, and part() reads them without a long division.
    private static final int BASE = 1000000000;
    private static final int LIMBS = 3;
    private static final int TOP_LIMB_OF_MOST = 1000000;
    // A number on the shelf: three limbs each of p, q and r, each limb bearing the sign.
    private static final int NUMBER = 3 * LIMBS;
    private static final int TONE_LENGTH = ENTRIES * NUMBER;
    private static final int BOX_LENGTH = TONES * TONE_LENGTH;

    // The greatest that is met on the way, in learned(), stays below 10 to the 590: 66 limbs, and one to divide with.
    private static final int ROOM = 80;
    // Eight products of two limbs fit a long; at this sum a column is relieved.
    private static final long COLUMN_FULL = 8000000000000000000L;
    private static final long COLUMN_CARRY = 8000000000L;

    private final Shelf shelf;
    private final Acts acts;
    private final Judge judge;
    private int noTone;
    private int noDivisor;

    public PortsBench() {
        shelf = new Shelf();
        acts = new Acts(shelf);
        judge = new Judge();
        noTone = NONE;
        noDivisor = NONE;
    }

    public int box(int ports) {
        if (ports != 1 && ports != 2) {
            return BAD;
        }
        return shelf.addBox(ports);
    }

    public int set(int box, int tone, int i, int j, int p, int q, int r) {
        if (!isTone(tone) || !shelf.hasEntry(box, i, j) || !mayBeGiven(p, q, r)) {
            return BAD;
        }
        shelf.startDraft(box);
        shelf.draftSmall(tone, entry(i, j), p, q, r);
        shelf.keepDraft(box);
        return 0;
    }

    public int all(int box, int i, int j, int p, int q, int r) {
        if (!shelf.hasEntry(box, i, j) || !mayBeGiven(p, q, r)) {
            return BAD;
        }
        shelf.startDraft(box);
        for (int tone = 0; tone < TONES; tone++) {
            shelf.draftSmall(tone, entry(i, j), p, q, r);
        }
        shelf.keepDraft(box);
        return 0;
    }

    public int copy(int c, int a) {
        if (!shelf.hasBox(c) || !shelf.hasBox(a) || shelf.portsOf(c) != shelf.portsOf(a)) {
            return BAD;
        }
        shelf.startDraft(a);
        shelf.keepDraft(c);
        return 0;
    }

    public int join(int c, int a, int b) {
        if (!shelf.hasBoxWith(c, 2) || !shelf.hasBoxWith(a, 2) || !shelf.hasBoxWith(b, 2)) {
            return BAD;
        }
        acts.start(c);
        for (int tone = 0; tone < TONES; tone++) {
            int divisor = acts.joined(tone, a, b);
            if (divisor != 0) {
                return refuse(tone, divisor);
            }
        }
        return finish(c);
    }

    public int takeOff(int c, int w, int a, int side) {
        if (!shelf.hasBoxWith(c, 2) || !shelf.hasBoxWith(w, 2) || !shelf.hasBoxWith(a, 2)) {
            return BAD;
        }
        if (side != 0 && side != 1) {
            return BAD;
        }
        acts.start(c);
        for (int tone = 0; tone < TONES; tone++) {
            int divisor = acts.takenOff(tone, w, a, side == 1);
            if (divisor != 0) {
                return refuse(tone, divisor);
            }
        }
        return finish(c);
    }

    public int turn(int c, int a) {
        if (!shelf.hasBoxWith(c, 2) || !shelf.hasBoxWith(a, 2)) {
            return BAD;
        }
        shelf.draftTurned(a);
        shelf.keepDraft(c);
        return 0;
    }

    public int close(int c, int a, int k) {
        if (!shelf.hasBoxWith(c, 1) || !shelf.hasBoxWith(a, 2) || !shelf.hasBoxWith(k, 1)) {
            return BAD;
        }
        acts.start(c);
        for (int tone = 0; tone < TONES; tone++) {
            int divisor = acts.closed(tone, a, k);
            if (divisor != 0) {
                return refuse(tone, divisor);
            }
        }
        return finish(c);
    }

    public int learn(int c, int k, int m) {
        if (!shelf.hasBoxWith(c, 2) || !hasThreeOfOnePort(k) || !hasThreeOfOnePort(m)) {
            return BAD;
        }
        acts.start(c);
        for (int tone = 0; tone < TONES; tone++) {
            int divisor = acts.learned(tone, k, m);
            if (divisor != 0) {
                return refuse(tone, divisor);
            }
        }
        return finish(c);
    }

    public int correct(int c, int e, int m) {
        if (!shelf.hasBoxWith(c, 1) || !shelf.hasBoxWith(e, 2) || !shelf.hasBoxWith(m, 1)) {
            return BAD;
        }
        acts.start(c);
        for (int tone = 0; tone < TONES; tone++) {
            int divisor = acts.undone(tone, e, m);
            if (divisor != 0) {
                return refuse(tone, divisor);
            }
        }
        return finish(c);
    }

    public int step(int c, int n, int d) {
        if (!shelf.hasBoxWith(c, 2) || n < 1 || n > MOST_STUFF || d < 1 || d > MOST_STUFF) {
            return BAD;
        }
        for (int tone = 0; tone < TONES; tone++) {
            shelf.draftSmall(tone, entry(0, 0), n - d, 0, n + d);
            shelf.draftSmall(tone, entry(1, 1), d - n, 0, n + d);
            shelf.draftSmall(tone, entry(1, 0), 2 * n, 0, n + d);
            shelf.draftSmall(tone, entry(0, 1), 2 * d, 0, n + d);
        }
        shelf.keepDraft(c);
        return 0;
    }

    public int time(int c, int a, int i, int j) {
        if (!shelf.hasBoxWith(c, 1) || !shelf.hasEntry(a, i, j)) {
            return BAD;
        }
        acts.start(c);
        for (int n = 0; n < TONES; n++) {
            acts.inTime(n, a, entry(i, j));
        }
        return finish(c);
    }

    public int undo() {
        return shelf.takeBack() ? 1 : NO;
    }

    public int where(int what) {
        if (what == 0) {
            return noTone;
        }
        return what == 1 ? noDivisor : BAD;
    }

    public long part(int box, int tone, int i, int j, int what) {
        if (!isTone(tone) || !shelf.hasEntry(box, i, j) || what < 0 || what > 5) {
            return BAD_PART;
        }
        int at = place(box, tone, entry(i, j)) + what / 2 * LIMBS;
        long low = shelf.cells[at];
        long middle = shelf.cells[at + 1];
        long high = shelf.cells[at + 2];
        return what % 2 == 0 ? high * 1000000 + middle / 1000 : middle % 1000 * BASE + low;
    }

    public int about(int box, int what) {
        if (!shelf.hasBox(box) || what < 0 || what > 3) {
            return BAD;
        }
        if (what == 0) {
            return shelf.portsOf(box);
        }
        int tones = 0;
        for (int tone = 0; tone < TONES; tone++) {
            if (holds(box, tone, what)) {
                tones++;
            }
        }
        return tones;
    }

    public int is(int box, int tone, int what) {
        if (!shelf.hasBox(box) || !isTone(tone) || what < 1 || what > 3) {
            return BAD;
        }
        return holds(box, tone, what) ? 1 : 0;
    }

    public int against(int tone, int a, int i, int j, int b, int k, int l) {
        if (!isTone(tone) || !shelf.hasEntry(a, i, j) || !shelf.hasEntry(b, k, l)) {
            return BAD_AGAINST;
        }
        return judge.compareSizes(shelf.cells, place(a, tone, entry(i, j)), place(b, tone, entry(k, l)));
    }

    public int worst(int box, int i, int j) {
        if (!shelf.hasEntry(box, i, j)) {
            return BAD;
        }
        int found = 0;
        for (int tone = 1; tone < TONES; tone++) {
            int here = place(box, tone, entry(i, j));
            if (judge.compareSizes(shelf.cells, here, place(box, found, entry(i, j))) > 0) {
                found = tone;
            }
        }
        return found;
    }

    public int same(int a, int b) {
        if (!shelf.hasBox(a) || !shelf.hasBox(b)) {
            return BAD;
        }
        if (shelf.portsOf(a) != shelf.portsOf(b)) {
            return 0;
        }
        return shelf.alike(place(a, 0, 0), place(b, 0, 0), BOX_LENGTH) ? 1 : 0;
    }

    public int count(int what) {
        if (what == 0) {
            return shelf.boxes;
        }
        return what == 1 ? shelf.acts : BAD;
    }

    private boolean hasThreeOfOnePort(int first) {
        // The first is looked at before 1 and 2 are added, so that the sums can't wrap round.
        return shelf.hasBoxWith(first, 1) && shelf.hasBoxWith(first + 1, 1) && shelf.hasBoxWith(first + 2, 1);
    }

    private int refuse(int tone, int divisor) {
        noTone = tone;
        noDivisor = divisor;
        return NO;
    }

    private int finish(int c) {
        if (acts.foundBig()) {
            return BIG;
        }
        shelf.keepDraft(c);
        return 0;
    }

    private boolean holds(int box, int tone, int what) {
        int ports = shelf.portsOf(box);
        if (what == 1) {
            return ports == 1 || shelf.alike(place(box, tone, entry(0, 1)), place(box, tone, entry(1, 0)), NUMBER);
        }
        judge.measure(shelf.cells, place(box, tone, 0), ports);
        return what == 2 ? judge.foundPassive() : judge.foundLossless();
    }

    private static boolean isTone(int tone) {
        return tone >= 0 && tone < TONES;
    }

    private static boolean mayBeGiven(int p, int q, int r) {
        return p >= -MOST_GIVEN && p <= MOST_GIVEN && q >= -MOST_GIVEN && q <= MOST_GIVEN && r >= 1 && r <= MOST_GIVEN;
    }

    private static int entry(int i, int j) {
        return 2 * i + j;
    }

    private static int place(int box, int tone, int entry) {
        return box * BOX_LENGTH + tone * TONE_LENGTH + entry * NUMBER;
    }

    /** The boxes, the acts that can be taken back, and the draft of what a box becomes. */
    private static final class Shelf {
        final int[] cells = new int[MOST_BOXES * BOX_LENGTH];
        final int[] draft = new int[BOX_LENGTH];
        private final int[] ports = new int[MOST_BOXES];
        private final int[] former = new int[MOST_ACTS * BOX_LENGTH];
        private final int[] formerBox = new int[MOST_ACTS];
        private int next;
        int boxes;
        int acts;

        int addBox(int portsOfIt) {
            int box = boxes;
            if (box >= MOST_BOXES) {
                return FULL;
            }
            ports[box] = portsOfIt;
            for (int entry = 0; entry < TONES * ENTRIES; entry++) {
                // 0 is 0, 0, 1: the cells are 0 already but for r.
                cells[place(box, 0, entry) + 2 * LIMBS] = 1;
            }
            boxes++;
            return box;
        }

        boolean hasBox(int box) {
            return box >= 0 && box < boxes;
        }

        boolean hasBoxWith(int box, int portsOfIt) {
            return hasBox(box) && ports[box] == portsOfIt;
        }

        boolean hasEntry(int box, int i, int j) {
            return hasBox(box) && i >= 0 && i < ports[box] && j >= 0 && j < ports[box];
        }

        int portsOf(int box) {
            return hasBox(box) ? ports[box] : 0;
        }

        boolean alike(int one, int other, int length) {
            for (int k = 0; k < length; k++) {
                if (cells[one + k] != cells[other + k]) {
                    return false;
                }
            }
            return true;
        }

        void startDraft(int box) {
            System.arraycopy(cells, place(box, 0, 0), draft, 0, BOX_LENGTH);
        }

        void draftTurned(int box) {
            for (int tone = 0; tone < TONES; tone++) {
                for (int entry = 0; entry < ENTRIES; entry++) {
                    int to = place(0, tone, ENTRIES - 1 - entry);
                    System.arraycopy(cells, place(box, tone, entry), draft, to, NUMBER);
                }
            }
        }

        /** For p, q and r that fit one limb each; r is above 0. */
        void draftSmall(int tone, int entry, int p, int q, int r) {
            long shared = Whole.shortGcd(Whole.shortGcd(r, Math.abs(p)), Math.abs(q));
            int at = place(0, tone, entry);
            for (int k = 0; k < NUMBER; k++) {
                draft[at + k] = 0;
            }
            if (shared > 0) {
                draft[at] = (int) (p / shared);
                draft[at + LIMBS] = (int) (q / shared);
                draft[at + 2 * LIMBS] = (int) (r / shared);
            }
        }

        void keepDraft(int box) {
            System.arraycopy(cells, place(box, 0, 0), former, next * BOX_LENGTH, BOX_LENGTH);
            System.arraycopy(draft, 0, cells, place(box, 0, 0), BOX_LENGTH);
            formerBox[next] = box;
            next = (next + 1) % MOST_ACTS;
            acts = Math.min(acts + 1, MOST_ACTS);
        }

        boolean takeBack() {
            if (acts == 0) {
                return false;
            }
            next = (next + MOST_ACTS - 1) % MOST_ACTS;
            acts--;
            System.arraycopy(former, next * BOX_LENGTH, cells, place(formerBox[next], 0, 0), BOX_LENGTH);
            return true;
        }
    }

    /** The acts that divide, a tone at a time: each answers 0 or which divisor is 0, and drafts what comes out. */
    private static final class Acts {
        private final Shelf shelf;
        private final Lowest lowest;
        private final Ratio[] a;
        private final Ratio[] b;
        private final Ratio one;
        private final Ratio quarter;
        private final Ratio e;
        private final Ratio f;
        private final Ratio g;
        private final Ratio t;
        private final Ratio z;
        private final Gauss[] rows;
        private final Gauss[] answers;
        private final Gauss minor;
        private final Gauss term;
        private final Gauss square;

        Acts(Shelf shelfToUse) {
            Whole spareWhole = new Whole();
            Gauss spareGauss = new Gauss(spareWhole);
            shelf = shelfToUse;
            lowest = new Lowest(shelf.draft, spareWhole);
            a = Ratio.four(spareGauss, spareWhole);
            b = Ratio.four(spareGauss, spareWhole);
            one = new Ratio(spareGauss, spareWhole);
            quarter = new Ratio(spareGauss, spareWhole);
            e = new Ratio(spareGauss, spareWhole);
            f = new Ratio(spareGauss, spareWhole);
            g = new Ratio(spareGauss, spareWhole);
            t = new Ratio(spareGauss, spareWhole);
            z = new Ratio(spareGauss, spareWhole);
            rows = Gauss.row(12, spareWhole);
            answers = Gauss.row(4, spareWhole);
            minor = new Gauss(spareWhole);
            term = new Gauss(spareWhole);
            square = new Gauss(spareWhole);
            one.putSmall(1, 1);
            quarter.putSmall(1, 4);
        }

        void start(int c) {
            lowest.big = false;
            shelf.startDraft(c);
        }

        boolean foundBig() {
            return lowest.big;
        }

        private void loadBox(Ratio[] into, int box, int tone, boolean turned) {
            for (int entry = 0; entry < ENTRIES; entry++) {
                int from = turned ? ENTRIES - 1 - entry : entry;
                into[entry].load(shelf.cells, place(box, tone, from));
            }
        }

        int joined(int tone, int boxA, int boxB) {
            loadBox(a, boxA, tone, false);
            loadBox(b, boxB, tone, false);
            t.product(a[3], b[0]);
            e.sum(one, t, -1);
            if (e.isZero()) {
                return 1;
            }
            t.product(a[1], a[2]);
            z.product(t, b[0]);
            t.quotient(z, e);
            z.sum(a[0], t, 1);
            lowest.draft(z.over, z.under, tone, 0);
            t.product(a[1], b[1]);
            z.quotient(t, e);
            lowest.draft(z.over, z.under, tone, 1);
            t.product(a[2], b[2]);
            z.quotient(t, e);
            lowest.draft(z.over, z.under, tone, 2);
            t.product(b[1], b[2]);
            z.product(t, a[3]);
            t.quotient(z, e);
            z.sum(b[3], t, 1);
            lowest.draft(z.over, z.under, tone, 3);
            return 0;
        }

        int takenOff(int tone, int boxW, int boxA, boolean behind) {
            loadBox(a, boxA, tone, behind);
            loadBox(b, boxW, tone, behind);
            if (a[1].isZero()) {
                return 1;
            }
            if (a[2].isZero()) {
                return 2;
            }
            g.sum(b[0], a[0], -1);
            t.product(a[1], a[2]);
            z.product(a[3], g);
            f.sum(t, z, 1);
            if (f.isZero()) {
                return 3;
            }
            // As e is A01 A10 / f, what the document tells by e is told by f here, in smaller numbers.
            z.quotient(g, f);
            lowest.draft(z.over, z.under, tone, behind ? 3 : 0);
            t.product(b[1], a[2]);
            z.quotient(t, f);
            lowest.draft(z.over, z.under, tone, behind ? 2 : 1);
            t.product(b[2], a[1]);
            z.quotient(t, f);
            lowest.draft(z.over, z.under, tone, behind ? 1 : 2);
            t.product(b[1], b[2]);
            z.product(t, a[3]);
            t.quotient(z, f);
            z.sum(b[3], t, -1);
            lowest.draft(z.over, z.under, tone, behind ? 0 : 3);
            return 0;
        }

        int closed(int tone, int boxA, int boxK) {
            loadBox(a, boxA, tone, false);
            b[0].load(shelf.cells, place(boxK, tone, 0));
            t.product(a[3], b[0]);
            e.sum(one, t, -1);
            if (e.isZero()) {
                return 1;
            }
            t.product(a[1], a[2]);
            z.product(t, b[0]);
            t.quotient(z, e);
            z.sum(a[0], t, 1);
            lowest.draft(z.over, z.under, tone, 0);
            return 0;
        }

        int undone(int tone, int boxE, int boxM) {
            loadBox(a, boxE, tone, false);
            b[0].load(shelf.cells, place(boxM, tone, 0));
            g.sum(b[0], a[0], -1);
            t.product(a[1], a[2]);
            z.product(a[3], g);
            f.sum(t, z, 1);
            if (f.isZero()) {
                return 1;
            }
            z.quotient(g, f);
            lowest.draft(z.over, z.under, tone, 0);
            return 0;
        }

        /**
         * With k = K / s and m = M / t the three equations are u (s t) + v (K t) + w (M K) = M s: by determinants
         * all is told in wholes of few digits, and the first one is 0 just if the document's divisor is.
         */
        int learned(int tone, int firstK, int firstM) {
            for (int row = 0; row < 3; row++) {
                a[0].load(shelf.cells, place(firstK + row, tone, 0));
                b[0].load(shelf.cells, place(firstM + row, tone, 0));
                rows[4 * row].product(a[0].under, b[0].under, 1);
                rows[4 * row + 1].product(a[0].over, b[0].under, 1);
                rows[4 * row + 2].product(a[0].over, b[0].over, 1);
                rows[4 * row + 3].product(b[0].over, a[0].under, 1);
            }
            Gauss whole = answers[0];
            Gauss u = answers[1];
            Gauss v = answers[2];
            Gauss w = answers[3];
            setDeterminant(whole, 0, 1, 2);
            if (whole.isZero()) {
                return 1;
            }
            setDeterminant(u, 3, 1, 2);
            setDeterminant(v, 0, 3, 2);
            setDeterminant(w, 0, 1, 3);
            lowest.draft(u, whole, tone, 0);
            lowest.draft(one.over, one.under, tone, 1);
            term.product(v, whole, 1);
            minor.product(u, w, 1);
            term.sum(term, minor, 1);
            square.product(whole, whole, 1);
            lowest.draft(term, square, tone, 2);
            lowest.draft(w, whole, tone, 3);
            return 0;
        }

        /** By the first row's three, each times what the rows below make of the other two columns. */
        private void setDeterminant(Gauss into, int x, int y, int w) {
            into.re.clear();
            into.im.clear();
            for (int k = 0; k < 3; k++) {
                int head = k == 0 ? x : k == 1 ? y : w;
                int left = k == 0 ? y : k == 1 ? w : x;
                int right = k == 0 ? w : k == 1 ? x : y;
                minor.product(rows[4 + left], rows[8 + right], 1);
                term.product(rows[4 + right], rows[8 + left], 1);
                minor.sum(minor, term, -1);
                term.product(rows[head], minor, 1);
                into.sum(into, term, 1);
            }
        }

        void inTime(int n, int boxA, int entry) {
            for (int tone = 0; tone < TONES; tone++) {
                a[tone].load(shelf.cells, place(boxA, tone, entry));
                a[tone].over.rotate(tone * n % 4);
            }
            e.sum(a[0], a[1], 1);
            f.sum(a[2], a[3], 1);
            g.sum(e, f, 1);
            z.product(g, quarter);
            lowest.draft(z.over, z.under, n, 0);
        }
    }

    /** Sizes of numbers, and what they tell of a box at a tone. */
    private static final class Judge {
        private final Ratio[] s;
        private final Gauss mirrored;
        private final Gauss under;
        private final Gauss ofFirst;
        private final Gauss ofSecond;
        private final Whole size;
        private final Whole left;
        private final Whole right;
        private final Whole leftUnder;
        private final Whole rightUnder;
        private final Whole lackOfFirst;
        private final Whole lackOfSecond;
        private final Whole lacks;
        private final Whole crossing;

        Judge() {
            Whole spareWhole = new Whole();
            s = Ratio.four(new Gauss(spareWhole), spareWhole);
            mirrored = new Gauss(spareWhole);
            under = new Gauss(spareWhole);
            ofFirst = new Gauss(spareWhole);
            ofSecond = new Gauss(spareWhole);
            size = new Whole();
            left = new Whole();
            right = new Whole();
            leftUnder = new Whole();
            rightUnder = new Whole();
            lackOfFirst = new Whole();
            lackOfSecond = new Whole();
            lacks = new Whole();
            crossing = new Whole();
        }

        int compareSizes(int[] cells, int at, int other) {
            s[0].load(cells, at);
            s[1].load(cells, other);
            setSizes(s[0], s[1]);
            return left.compareWith(right);
        }

        /** left and right become the sizes of x and y, both times the squares of both r. */
        private void setSizes(Ratio x, Ratio y) {
            leftUnder.product(x.under.re, x.under.re);
            rightUnder.product(y.under.re, y.under.re);
            x.over.setSize(size);
            left.product(size, rightUnder);
            y.over.setSize(size);
            right.product(size, leftUnder);
        }

        /** All that is told here stands over the squares of the same r, and so compares as wholes. */
        void measure(int[] cells, int at, int ports) {
            for (int entry = 0; entry < ENTRIES; entry++) {
                s[entry].load(cells, at + entry * NUMBER);
            }
            // A box with one port has 0 where the others would stand: so its lack is 1 less its size.
            setSizes(s[0], s[2]);
            setLack(lackOfFirst);
            lackOfSecond.clear();
            crossing.clear();
            if (ports == 2) {
                setSizes(s[1], s[3]);
                setLack(lackOfSecond);
                setCrossing();
            }
            lacks.product(lackOfFirst, lackOfSecond);
        }

        /** How much the two sizes lack to 1. */
        private void setLack(Whole into) {
            into.product(leftUnder, rightUnder);
            into.sum(into, left, -1);
            into.sum(into, right, -1);
        }

        private void setCrossing() {
            mirrored.product(s[1].over, s[0].over, -1);
            under.product(s[2].under, s[3].under, 1);
            ofFirst.product(mirrored, under, 1);
            mirrored.product(s[3].over, s[2].over, -1);
            under.product(s[0].under, s[1].under, 1);
            ofSecond.product(mirrored, under, 1);
            mirrored.sum(ofFirst, ofSecond, 1);
            mirrored.setSize(crossing);
        }

        boolean foundPassive() {
            return lackOfFirst.sign >= 0 && lackOfSecond.sign >= 0 && lacks.compareWith(crossing) >= 0;
        }

        boolean foundLossless() {
            return lackOfFirst.sign == 0 && lackOfSecond.sign == 0 && crossing.sign == 0;
        }
    }

    /** A number as one Gaussian whole over another: so dividing is multiplying, and only at the end all is shortened. */
    private static final class Ratio {
        final Gauss over;
        final Gauss under;
        private final Gauss spare;

        Ratio(Gauss spareGauss, Whole spareWhole) {
            over = new Gauss(spareWhole);
            under = new Gauss(spareWhole);
            spare = spareGauss;
        }

        static Ratio[] four(Gauss spareGauss, Whole spareWhole) {
            Ratio[] made = new Ratio[ENTRIES];
            for (int k = 0; k < made.length; k++) {
                made[k] = new Ratio(spareGauss, spareWhole);
            }
            return made;
        }

        void putSmall(int p, int r) {
            over.putSmall(p);
            under.putSmall(r);
        }

        void load(int[] cells, int at) {
            over.re.load(cells, at);
            over.im.load(cells, at + LIMBS);
            under.re.load(cells, at + 2 * LIMBS);
            under.im.clear();
        }

        boolean isZero() {
            return over.isZero();
        }

        // In what follows, this is never x or y: it is written while they are read.

        void product(Ratio x, Ratio y) {
            over.product(x.over, y.over, 1);
            under.product(x.under, y.under, 1);
        }

        void quotient(Ratio x, Ratio y) {
            over.product(x.over, y.under, 1);
            under.product(x.under, y.over, 1);
        }

        /** x + y, or x - y if ySign is -1. */
        void sum(Ratio x, Ratio y, int ySign) {
            over.product(x.over, y.under, 1);
            spare.product(y.over, x.under, 1);
            over.sum(over, spare, ySign);
            under.product(x.under, y.under, 1);
        }
    }

    /** re + im i. */
    private static final class Gauss {
        final Whole re;
        final Whole im;
        private final Whole spare;

        Gauss(Whole spareWhole) {
            re = new Whole();
            im = new Whole();
            spare = spareWhole;
        }

        static Gauss[] row(int length, Whole spareWhole) {
            Gauss[] made = new Gauss[length];
            for (int k = 0; k < made.length; k++) {
                made[k] = new Gauss(spareWhole);
            }
            return made;
        }

        void putSmall(int value) {
            re.putSmall(value);
            im.clear();
        }

        void assign(Gauss x) {
            re.assign(x.re);
            im.assign(x.im);
        }

        boolean isZero() {
            return re.sign == 0 && im.sign == 0;
        }

        /** x y, or x times y mirrored if ySide is -1; this is neither x nor y. */
        void product(Gauss x, Gauss y, int ySide) {
            re.product(x.re, y.re);
            spare.product(x.im, y.im);
            re.sum(re, spare, -ySide);
            im.product(x.im, y.re);
            spare.product(x.re, y.im);
            im.sum(im, spare, ySide);
        }

        void sum(Gauss x, Gauss y, int ySign) {
            re.sum(x.re, y.re, ySign);
            im.sum(x.im, y.im, ySign);
        }

        /** Times i, as often as told. */
        void rotate(int quarters) {
            for (int k = 0; k < quarters; k++) {
                spare.assign(re);
                re.assign(im);
                re.sign = -re.sign;
                im.assign(spare);
            }
        }

        void setSize(Whole into) {
            into.product(re, re);
            spare.product(im, im);
            into.sum(into, spare, 1);
        }
    }

    /** Brings one Gaussian whole over another to lowest terms, as the draft of a box holds it. */
    private static final class Lowest {
        private final int[] cells;
        private final Gauss top;
        private final Whole bottom;
        private final Whole quotient;
        private final Whole rest;
        private Whole greater;
        private Whole less;
        boolean big;

        Lowest(int[] draftCells, Whole spareWhole) {
            cells = draftCells;
            top = new Gauss(spareWhole);
            bottom = new Whole();
            quotient = new Whole();
            rest = new Whole();
            greater = new Whole();
            less = new Whole();
        }

        /** What is too great for a box is told by big; then the draft is not to be used. */
        void draft(Gauss over, Gauss under, int tone, int entry) {
            if (under.im.sign == 0) {
                top.assign(over);
                bottom.assign(under.re);
                int side = bottom.sign;
                top.re.sign *= side;
                top.im.sign *= side;
                bottom.sign = side * side;
            } else {
                top.product(over, under, -1);
                under.setSize(bottom);
            }
            // If r is to end within three limbs (10 to the 24 at most), what is shared can't have fewer limbs than this.
            int fewestLimbs = bottom.size - LIMBS;
            int at = place(0, tone, entry);
            greater.assign(bottom);
            boolean fits = share(top.re, fewestLimbs) && share(top.im, fewestLimbs)
                && writePart(top.re, at) && writePart(top.im, at + LIMBS) && writePart(bottom, at + 2 * LIMBS);
            big = big || !fits;
        }

        /** greater becomes what it shares with x; false if that has fewer limbs than told. */
        private boolean share(Whole x, int fewestLimbs) {
            less.assign(x);
            less.sign = less.sign * less.sign;
            if (greater.compareLimbs(less) < 0) {
                swap();
            }
            // Two rounds halve at least, and ROOM limbs hold below 2400 binary digits.
            for (int round = 0; round < 5000; round++) {
                if (less.sign == 0) {
                    return true;
                }
                if (less.size < fewestLimbs) {
                    return false;
                }
                if (greater.size <= 2) {
                    greater.putSmall(Whole.shortGcd(greater.head(), less.head()));
                    return true;
                }
                if (!shareByHeads()) {
                    greater.divide(less, quotient);
                    swap();
                }
            }
            return false;
        }

        private void swap() {
            Whole was = greater;
            greater = less;
            less = was;
        }

        /**
         * Lehmer's way: as long as the first 18 digits alone tell which quotients follow, these are gathered, and
         * both wholes go down by all of them at once. False if they tell not even one.
         */
        private boolean shareByHeads() {
            int size = greater.size;
            long scale = scaleOf(greater.limbAt(size - 1));
            long x = greater.scaledHead(size, scale);
            long y = less.scaledHead(size, scale);
            long xx = 1;
            long xy = 0;
            long yx = 0;
            long yy = 1;
            for (int k = 0; k < 100 && y + yx > 0 && y + yy > 0; k++) {
                long q = (x + xx) / (y + yx);
                if (q != (x + xy) / (y + yy) || q >= BASE) {
                    break;
                }
                long nextX = xx - q * yx;
                long nextY = xy - q * yy;
                if (Math.abs(nextX) >= BASE || Math.abs(nextY) >= BASE) {
                    break;
                }
                xx = yx;
                yx = nextX;
                xy = yy;
                yy = nextY;
                long nextHead = x - q * y;
                x = y;
                y = nextHead;
            }
            if (xy == 0) {
                return false;
            }
            rest.assign(greater);
            greater.mix(rest, xx, less, xy, size);
            less.mix(rest, yx, less, yy, size);
            greater.trim(size, 1);
            less.trim(size, 1);
            return true;
        }

        private static long scaleOf(int limb) {
            long scale = 1;
            for (int k = 0; k < 9 && limb * scale < BASE / 10; k++) {
                scale *= 10;
            }
            return scale;
        }

        private boolean writePart(Whole x, int at) {
            if (x.size - greater.size > LIMBS) {
                return false;
            }
            rest.assign(x);
            rest.divide(greater, quotient);
            int high = quotient.limbAt(2);
            if (quotient.size > LIMBS || high > TOP_LIMB_OF_MOST) {
                return false;
            }
            if (high == TOP_LIMB_OF_MOST && (quotient.limbAt(1) > 0 || quotient.limbAt(0) > 0)) {
                return false;
            }
            for (int k = 0; k < LIMBS; k++) {
                cells[at + k] = x.sign * quotient.limbAt(k);
            }
            return true;
        }
    }

    /** A whole of any sign: limbs of nine digits from the lowest on, none of them 0 at the top; 0 has none. */
    private static final class Whole {
        int sign;
        int size;
        private final int[] limbs = new int[ROOM];

        void clear() {
            sign = 0;
            size = 0;
        }

        /** For x, y from 0 to below 10 to the 18. */
        static long shortGcd(long x, long y) {
            long greater = x;
            long less = y;
            // Below 10 to the 18 no two wholes need a hundred rounds.
            for (int round = 0; round < 100 && less != 0; round++) {
                long rest = greater % less;
                greater = less;
                less = rest;
            }
            return greater;
        }

        /** For 0 to below 10 to the 18. */
        void putSmall(long value) {
            limbs[0] = (int) (value % BASE);
            limbs[1] = (int) (value / BASE % BASE);
            trim(2, 1);
        }

        void load(int[] cells, int at) {
            int side = 0;
            for (int k = 0; k < LIMBS; k++) {
                int limb = cells[at + k];
                limbs[k] = Math.abs(limb);
                if (limb != 0) {
                    side = limb < 0 ? -1 : 1;
                }
            }
            trim(LIMBS, side);
        }

        void assign(Whole x) {
            if (x != this) {
                System.arraycopy(x.limbs, 0, limbs, 0, x.size);
                size = x.size;
                sign = x.sign;
            }
        }

        int limbAt(int k) {
            return k >= 0 && k < size ? limbs[k] : 0;
        }

        /** For a whole of two limbs at most: its value without the sign. */
        long head() {
            return limbAt(1) * (long) BASE + limbAt(0);
        }

        /** The limbs from sizeOfGreater - 1 down, times scale, so far as 18 digits go; the rest is cut. */
        long scaledHead(int sizeOfGreater, long scale) {
            long high = limbAt(sizeOfGreater - 1) * scale;
            long middle = limbAt(sizeOfGreater - 2) * scale;
            long low = limbAt(sizeOfGreater - 3) * scale;
            return high * BASE + middle + low / BASE;
        }

        void trim(int most, int side) {
            int k = most < ROOM ? most : ROOM;
            while (k > 0 && limbs[k - 1] == 0) {
                k--;
            }
            size = k;
            sign = k == 0 ? 0 : side;
        }

        int compareWith(Whole x) {
            if (sign != x.sign) {
                return sign < x.sign ? -1 : 1;
            }
            return sign * compareLimbs(x);
        }

        /** Compares without the signs. */
        int compareLimbs(Whole x) {
            if (size != x.size) {
                return size < x.size ? -1 : 1;
            }
            for (int k = size - 1; k >= 0; k--) {
                if (limbs[k] != x.limbs[k]) {
                    return limbs[k] < x.limbs[k] ? -1 : 1;
                }
            }
            return 0;
        }

        /** x y; this is neither x nor y. Limb by limb of what comes out, so that each is divided but once. */
        void product(Whole x, Whole y) {
            int most = x.size + y.size;
            if (x.size == 0 || y.size == 0 || most > ROOM) {
                clear();
                return;
            }
            long carry = 0;
            for (int k = 0; k < most - 1; k++) {
                long column = carry;
                long relieved = 0;
                int last = Math.min(k, x.size - 1);
                for (int i = Math.max(0, k - y.size + 1); i <= last; i++) {
                    column += (long) x.limbs[i] * y.limbs[k - i];
                    if (column >= COLUMN_FULL) {
                        column -= COLUMN_FULL;
                        relieved += COLUMN_CARRY;
                    }
                }
                carry = column / BASE;
                limbs[k] = (int) (column - carry * BASE);
                carry += relieved;
            }
            limbs[most - 1] = (int) carry;
            trim(most, x.sign * y.sign);
        }

        /** x + y, or x - y if ySide is -1; this may be x or y. */
        void sum(Whole x, Whole y, int ySide) {
            int side = y.sign * ySide;
            if (side == 0) {
                assign(x);
            } else if (x.sign == 0) {
                assign(y);
                sign = side;
            } else if (x.sign == side) {
                int most = Math.max(x.size, y.size) + 1;
                mix(x, 1, y, 1, most);
                trim(most, side);
            } else if (x.compareLimbs(y) >= 0) {
                int most = x.size;
                int sideOfX = x.sign;
                mix(x, 1, y, -1, most);
                trim(most, sideOfX);
            } else {
                int most = y.size;
                mix(y, 1, x, -1, most);
                trim(most, side);
            }
        }

        /**
         * Fills most limbs with x times xTimes + y times yTimes, signs left out, for what is 0 or above and has no
         * more limbs; this may be x or y. The factors are 1, or below BASE and of unlike signs: so a long holds a limb.
         */
        void mix(Whole x, long xTimes, Whole y, long yTimes, int most) {
            int end = Math.min(most, ROOM);
            int xSize = x.size;
            int ySize = y.size;
            long carry = 0;
            for (int k = 0; k < end; k++) {
                long value = carry;
                if (k < xSize) {
                    value += xTimes * x.limbs[k];
                }
                if (k < ySize) {
                    value += yTimes * y.limbs[k];
                }
                carry = Math.floorDiv(value, (long) BASE);
                limbs[k] = (int) (value - carry * BASE);
            }
        }

        /** Signs left out: quotient becomes how often by goes into this, and this what is left. */
        void divide(Whole by, Whole quotient) {
            if (by.size == 0 || compareLimbs(by) < 0 || size >= ROOM) {
                quotient.clear();
                return;
            }
            if (by.size == 1) {
                quotient.assign(this);
                putSmall(quotient.divideShort(by.limbs[0]));
                return;
            }
            // Knuth's way: with a great first limb below, two limbs by one tell the quotient's limb but for a little.
            int factor = BASE / (by.limbs[by.size - 1] + 1);
            int top = size - by.size;
            int bySize = by.size;
            limbs[size] = 0;
            multiplyShort(factor, size + 1);
            by.multiplyShort(factor, bySize);
            for (int k = top; k >= 0; k--) {
                quotient.limbs[k] = divideLimb(by, bySize, k);
            }
            quotient.trim(top + 1, 1);
            trim(bySize, 1);
            divideShort(factor);
            by.divideShort(factor);
        }

        /** One limb of the quotient: by times it, k limbs up, is taken off here. */
        private int divideLimb(Whole by, int bySize, int k) {
            int[] below = by.limbs;
            long first = below[bySize - 1];
            long head = limbs[k + bySize] * (long) BASE + limbs[k + bySize - 1];
            if (first == 0) {
                return 0;
            }
            long guess = head / first;
            long left = head % first;
            for (int tries = 0; tries < 3 && left < BASE; tries++) {
                if (guess < BASE && guess * below[bySize - 2] <= left * BASE + limbs[k + bySize - 2]) {
                    break;
                }
                guess--;
                left += first;
            }
            if (addShifted(by, bySize, k, -guess) < 0) {
                guess--;
                addShifted(by, bySize, k, 1);
            }
            return (int) guess;
        }

        /** Adds by times factor, k limbs up, to bySize + 1 limbs from there; answers what is carried past them. */
        private long addShifted(Whole by, int bySize, int k, long factor) {
            long carry = 0;
            for (int i = 0; i <= bySize; i++) {
                long value = limbs[k + i] + carry;
                if (i < bySize) {
                    value += factor * by.limbs[i];
                }
                carry = Math.floorDiv(value, (long) BASE);
                limbs[k + i] = (int) (value - carry * BASE);
            }
            return carry;
        }

        private void multiplyShort(int factor, int length) {
            long carry = 0;
            for (int k = 0; k < length; k++) {
                long value = (long) factor * limbs[k] + carry;
                carry = value / BASE;
                limbs[k] = (int) (value - carry * BASE);
            }
        }

        /** Divides by what fits a limb, and answers what is left. */
        private long divideShort(int by) {
            long left = 0;
            if (by > 0) {
                for (int k = size - 1; k >= 0; k--) {
                    long value = left * BASE + limbs[k];
                    limbs[k] = (int) (value / by);
                    left = value % by;
                }
                trim(size, sign);
            }
            return left;
        }
    }
}
