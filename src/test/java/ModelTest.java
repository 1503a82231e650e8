import java.math.BigInteger;
import java.util.ArrayDeque;
import java.util.ArrayList;
import java.util.Deque;
import java.util.List;

/** Long runs of calls, each answer held against a plain model that does what the document says word by word. */
public final class ModelTest {
    private static final int CALLS = 512;
    private static final String[] KINDS = {"small", "unit", "great", "grow", "fraction", "lossless", "vast", "near", "trip"};

    private static long seed;
    private static int wrong;
    private static final int[] answered = new int[6];

    public static void main(String[] args) {
        int runs = args.length > 0 ? Integer.parseInt(args[0]) : 60;
        int first = args.length > 1 ? Integer.parseInt(args[1]) : 0;
        for (int run = first; run < first + runs && wrong < 20; run++) {
            for (String kind : KINDS) {
                new Run(run, kind).go();
            }
        }
        for (int k = 1; k < answered.length; k++) {
            if (answered[k] == 0 && k != 4) {
                wrong++;
                System.out.println("no call of any run answered " + -k);
            }
        }
        System.out.println(wrong == 0 ? "all answers are as the model's" : wrong + " answers are not as the model's");
        if (wrong != 0) {
            System.exit(1);
        }
    }

    /** A fixed row of numbers, the same in every run of the test. */
    private static int next(int bound) {
        seed = seed * 6364136223846793005L + 1442695040888963407L;
        return (int) ((seed >>> 33) % bound);
    }

    private static int pick(int... of) {
        return of[next(of.length)];
    }

    private static final class Run {
        final int number;
        final String kind;
        final PortsBench bench = new PortsBench();
        final Model model = new Model();
        int calls;

        Run(int number, String kind) {
            this.number = number;
            this.kind = kind;
            seed = number * 1000003L + kind.hashCode();
            for (int k = 0; k < 5; k++) {
                next(2);
            }
        }

        void go() {
            int before = wrong;
            start();
            while (calls < CALLS && wrong < before + 3) {
                call();
            }
        }

        void due(String call, long got, long want) {
            calls++;
            if (calls > CALLS) {
                // A row of calls may go beyond what the document promises: what these answer is free.
                return;
            }
            if (want < 0 && want > -6) {
                answered[(int) -want]++;
            }
            if (got != want) {
                wrong++;
                System.out.println("run " + number + " " + kind + ", call " + calls + ": " + call
                    + " answered " + got + ", due is " + want);
            }
        }

        void start() {
            for (int k = 0; k < 11; k++) {
                box(k < 5 ? 2 : 1);
            }
            for (int k = 0; k < 11; k++) {
                int ports = k < 5 ? 2 : 1;
                for (int i = 0; i < ports; i++) {
                    for (int j = 0; j < ports; j++) {
                        fill(k, i, j);
                    }
                }
            }
        }

        void box(int ports) {
            due("box(" + ports + ")", bench.box(ports), model.box(ports));
        }

        int port() {
            return next(40) == 0 ? pick(-1, 2, 3, Integer.MAX_VALUE, Integer.MIN_VALUE) : next(2);
        }

        int anyBox() {
            return next(60) == 0 ? pick(-1, 15, 16, 17, Integer.MAX_VALUE, Integer.MIN_VALUE) : next(model.boxes.size());
        }

        int boxWith(int ports) {
            if (next(30) == 0) {
                return anyBox();
            }
            for (int tries = 0; tries < 50; tries++) {
                int k = next(model.boxes.size());
                if (model.boxes.get(k).ports == ports) {
                    return k;
                }
            }
            return 0;
        }

        int tone() {
            return next(50) == 0 ? pick(-1, 4, 5, Integer.MAX_VALUE, Integer.MIN_VALUE) : next(4);
        }

        int[] number() {
            if (next(60) == 0) {
                return new int[] {pick(0, 1000001, -1000001, 1), pick(0, 1000001, -1000001), pick(0, -1, 1000001, 1)};
            }
            switch (kind) {
                case "small":
                    return new int[] {next(5) - 2, next(3) == 0 ? next(5) - 2 : 0, 1 + next(2)};
                case "unit": {
                    int[][] of = {{3, 4, 5}, {-3, 4, 5}, {4, -3, 5}, {1, 0, 1}, {0, 1, 1}, {0, -1, 1}, {-1, 0, 1}, {0, 0, 1},
                        {0, 0, 7}, {3, 0, 5}, {4, 0, 5}, {0, 4, 5}, {-4, 0, 5}, {5, 12, 13}, {1, 1, 2}, {1, 0, 2}, {24, 7, 25}};
                    return of[next(of.length)];
                }
                case "trip":
                    return new int[] {next(601) - 300, next(601) - 300, 1 + next(300)};
                case "near":
                    return new int[] {1 + next(3), next(3) == 0 ? next(3) : 0, 1 + next(next(2) == 0 ? 10 : 1000000)};
                case "vast":
                    return next(4) == 0 ? round() : new int[] {next(2000001) - 1000000, next(2000001) - 1000000, 1 + next(1000000)};
                case "great":
                    return new int[] {next(2000001) - 1000000, next(2000001) - 1000000, 1 + next(1000000)};
                case "grow":
                    return new int[] {pick(1000000, 999999, -1000000, 10, 1, 0, 1000, -1, 2), pick(0, 0, 0, 0, 1, 1000000),
                        pick(1, 1, 1, 2, 10, 1000000, 1000, 999999)};
                default:
                    return new int[] {next(41) - 20, next(41) - 20, 1 + next(20)};
            }
        }

        /** Numbers whose limbs are all nines or all noughts when they are multiplied. */
        int[] round() {
            return new int[] {pick(1000000, 999999, -999999, 1, 1000, 0), pick(0, 0, 1, -1000000, 999999),
                pick(1000000, 999999, 1, 1000, 500000, 2)};
        }

        void fill(int box, int i, int j) {
            if (kind.equals("lossless") && box >= 0 && box < 5 && next(4) != 0) {
                fillLossless(box);
                return;
            }
            if (kind.equals("vast") && box > 1 && box < 9 && next(2) == 0) {
                fillVast(box);
                return;
            }
            if (kind.equals("near") && box > 1 && box < 5 && next(2) == 0) {
                fillNear(box);
                return;
            }
            fillNumber(box, i, j);
        }

        void fillNumber(int box, int i, int j) {
            int[] n = number();
            if (next(3) == 0) {
                int tone = tone();
                due("set(" + box + ", " + tone + ", " + i + ", " + j + ", " + n[0] + ", " + n[1] + ", " + n[2] + ")",
                    bench.set(box, tone, i, j, n[0], n[1], n[2]), model.set(box, tone, i, j, n[0], n[1], n[2]));
            } else {
                due("all(" + box + ", " + i + ", " + j + ", " + n[0] + ", " + n[1] + ", " + n[2] + ")",
                    bench.all(box, i, j, n[0], n[1], n[2]), model.all(box, i, j, n[0], n[1], n[2]));
            }
        }

        /** a u, - b v* w; b v, a u* w: with a, b of one right triangle, u, v, w of size 1, this loses nothing. */
        void fillLossless(int box) {
            int[][] sides = {{3, 4, 5}, {4, 3, 5}, {5, 12, 13}, {1, 0, 1}, {0, 1, 1}, {-7, 24, 25}};
            int[] side = sides[next(sides.length)];
            Num a = Num.of(side[0], 0, side[2]);
            Num b = Num.of(side[1], 0, side[2]);
            Num u = ofSizeOne();
            Num v = ofSizeOne();
            Num w = ofSizeOne();
            Num[] s = {a.times(u), Num.ZERO.minus(b.times(v.mirrored()).times(w)), b.times(v), a.times(u.mirrored()).times(w)};
            int less = next(3) == 0 ? next(4) : -1;
            for (int k = 0; k < 4; k++) {
                Num n = k == less ? s[k].times(Num.of(pick(1, 999, 1, 0, 1001), pick(0, 0, 1), pick(1, 1000, 2))) : s[k];
                int p = n.p.intValueExact();
                int q = n.q.intValueExact();
                int r = n.r.intValueExact();
                due("all(" + box + ", " + k / 2 + ", " + k % 2 + ", " + p + ", " + q + ", " + r + ")",
                    bench.all(box, k / 2, k % 2, p, q, r), model.all(box, k / 2, k % 2, p, q, r));
            }
            for (int what = 1; what < 4; what++) {
                int tone = next(4);
                due("is(" + box + ", " + tone + ", " + what + ")", bench.is(box, tone, what), model.is(box, tone, what));
            }
        }

        static Num ofSizeOne() {
            int[][] of = {{1, 0, 1}, {0, 1, 1}, {-1, 0, 1}, {0, -1, 1}, {3, 4, 5}, {-4, 3, 5}, {5, -12, 13}};
            int[] n = of[next(of.length)];
            return Num.of(n[0], n[1], n[2]);
        }

        /** Numbers of some 24 digits, by what goes through boxes in a row; boxes 0 and 1 serve for it. */
        void fillVast(int box) {
            for (int k = 0; k < 4; k++) {
                int a = k % 2;
                due("all", bench.all(a, 0, 0, 0, 0, 1), model.all(a, 0, 0, 0, 0, 1));
                due("all", bench.all(a, 1, 1, 0, 0, 1), model.all(a, 1, 1, 0, 0, 1));
                fillNumber(a, 0, 1);
                fillNumber(a, 1, 0);
                if (k == 1) {
                    due("join", bench.join(0, 0, 1), model.join(0, 0, 1));
                } else if (k == 3) {
                    due("join", bench.join(1, 1, 0), model.join(1, 1, 0));
                }
                if (k == 1) {
                    due("copy", bench.copy(2, 0), model.copy(2, 0));
                }
            }
            int one = 5 + next(4);
            due("all", bench.all(one, 0, 0, 1, 0, 1), model.all(one, 0, 0, 1, 0, 1));
            due("close", bench.close(one, 1, one), model.close(one, 1, one));
            int into = 2 + next(3);
            due("all", bench.all(0, 0, 0, 1, 0, 1), model.all(0, 0, 0, 1, 0, 1));
            due("join", bench.join(into, 1, 0), model.join(into, 1, 0));
            due("turn", bench.turn(1, into), model.turn(1, into));
            int other = 2 + next(3);
            due("join", bench.join(other, other, 1), model.join(other, other, 1));
            due("join", bench.join(other, into, 1), model.join(other, into, 1));
            look();
        }

        /** A number of small wholes and next to nothing: what is shared is found by quotients that a few digits do not tell. */
        void fillNear(int box) {
            for (int a = 0; a < 2; a++) {
                for (int j = 0; j < 2; j++) {
                    due("all", bench.all(a, j, j, 0, 0, 1), model.all(a, j, j, 0, 0, 1));
                    int p = 1 + next(2);
                    int q = next(6) == 0 ? next(3) : 0;
                    int r = pick(1000000, 999983, 1 + next(1000000), 1 + next(1000));
                    due("all", bench.all(a, j, 1 - j, p, q, r), model.all(a, j, 1 - j, p, q, r));
                }
            }
            due("join", bench.join(0, 0, 1), model.join(0, 0, 1));
            if (next(2) == 0) {
                due("join", bench.join(0, 0, 1), model.join(0, 0, 1));
            }
            int p = next(12) - 6;
            int q = next(4) == 0 ? next(12) - 6 : 0;
            int r = 1 + next(7);
            due("all", bench.all(0, 0, 0, p, q, r), model.all(0, 0, 0, p, q, r));
            fillNumber(1, 0, 0);
            due("join", bench.join(box, 0, 1), model.join(box, 0, 1));
            for (int what = 0; what < 6; what++) {
                partOf(box, next(4), 0, 0, what);
            }
        }

        /** An instrument, what it reads of three known ones, and what is learned of these; a box joined and taken off. */
        void roundTrip() {
            int a = next(4);
            int known = 5;
            int read = 8;
            for (int k = 0; k < 3; k++) {
                due("close", bench.close(read + k, a, known + k), model.close(read + k, a, known + k));
            }
            due("learn(4, 5, 8)", bench.learn(4, known, read), model.learn(4, known, read));
            int m = read + next(3);
            due("correct", bench.correct(m, 4, m), model.correct(m, 4, m));
            due("same", bench.same(m, m - 3), model.same(m, m - 3));
            int b = next(4);
            due("join", bench.join(4, a, b), model.join(4, a, b));
            int side = next(2);
            int off = side == 0 ? a : b;
            due("takeOff", bench.takeOff(4, 4, off, side), model.takeOff(4, 4, off, side));
            due("same", bench.same(4, a + b - off), model.same(4, a + b - off));
        }

        void call() {
            if (kind.equals("trip") && next(4) == 0) {
                roundTrip();
            }
            int which = next(100);
            if (which < 15) {
                int box = anyBox();
                fill(box, port(), port());
            } else if (which < 55) {
                act(next(9));
                if (next(3) == 0) {
                    look();
                }
            } else if (which < 60) {
                due("undo()", bench.undo(), model.undo());
            } else if (which < 61) {
                box(pick(1, 2, 2, 1, 0, 3, -1));
            } else {
                ask(next(8));
            }
        }

        void act(int which) {
            int c = boxWith(2);
            int a = boxWith(2);
            int b = boxWith(2);
            int c1 = boxWith(1);
            int k = boxWith(1);
            int m = next(3) == 0 ? 5 + next(4) : boxWith(1);
            switch (which) {
                case 0:
                    due("join(" + c + ", " + a + ", " + b + ")", bench.join(c, a, b), model.join(c, a, b));
                    break;
                case 1: {
                    int side = next(40) == 0 ? pick(-1, 2) : next(2);
                    due("takeOff(" + c + ", " + a + ", " + b + ", " + side + ")", bench.takeOff(c, a, b, side),
                        model.takeOff(c, a, b, side));
                    break;
                }
                case 2:
                    due("turn(" + c + ", " + a + ")", bench.turn(c, a), model.turn(c, a));
                    break;
                case 3:
                    due("close(" + c1 + ", " + a + ", " + k + ")", bench.close(c1, a, k), model.close(c1, a, k));
                    break;
                case 4:
                case 5: {
                    int l = next(3) == 0 ? 5 + next(4) : k;
                    due("learn(" + c + ", " + l + ", " + m + ")", bench.learn(c, l, m), model.learn(c, l, m));
                    break;
                }
                case 6:
                    due("correct(" + c1 + ", " + a + ", " + m + ")", bench.correct(c1, a, m), model.correct(c1, a, m));
                    break;
                case 7: {
                    int from = anyBox();
                    int i = port();
                    int j = port();
                    due("time(" + c1 + ", " + from + ", " + i + ", " + j + ")", bench.time(c1, from, i, j),
                        model.time(c1, from, i, j));
                    break;
                }
                default:
                    lightAct(c, a, c1, k);
            }
        }

        void lightAct(int c, int a, int c1, int k) {
            if (next(2) == 0) {
                int n = next(5) == 0 ? pick(0, -1, 10000, 10001) : 1 + next(10000);
                int d = next(5) == 0 ? pick(0, -1, 10000, 10001) : 1 + next(10000);
                due("step(" + c + ", " + n + ", " + d + ")", bench.step(c, n, d), model.step(c, n, d));
            } else if (next(2) == 0) {
                due("copy(" + c + ", " + a + ")", bench.copy(c, a), model.copy(c, a));
            } else {
                due("copy(" + c1 + ", " + k + ")", bench.copy(c1, k), model.copy(c1, k));
            }
        }

        void look() {
            int box = boxWith(2);
            int tone = tone();
            int i = port();
            int j = port();
            for (int what = 0; what < 6; what++) {
                partOf(box, tone, i, j, what);
            }
        }

        void partOf(int box, int tone, int i, int j, int what) {
            due("part(" + box + ", " + tone + ", " + i + ", " + j + ", " + what + ")", bench.part(box, tone, i, j, what),
                model.part(box, tone, i, j, what));
        }

        void ask(int which) {
            int a = anyBox();
            int b = anyBox();
            int tone = tone();
            int i = port();
            int j = port();
            int what = next(20) == 0 ? pick(-1, 6, 7, Integer.MIN_VALUE, Integer.MAX_VALUE) : next(6);
            switch (which) {
                case 0:
                    due("where(" + what + ")", bench.where(what), model.where(what));
                    break;
                case 1:
                    partOf(a, tone, i, j, what);
                    break;
                case 2:
                    due("about(" + a + ", " + what + ")", bench.about(a, what), model.about(a, what));
                    break;
                case 3:
                    due("is(" + a + ", " + tone + ", " + what + ")", bench.is(a, tone, what), model.is(a, tone, what));
                    break;
                case 4: {
                    int k = port();
                    int l = port();
                    due("against(" + tone + ", " + a + ", " + i + ", " + j + ", " + b + ", " + k + ", " + l + ")",
                        bench.against(tone, a, i, j, b, k, l), model.against(tone, a, i, j, b, k, l));
                    break;
                }
                case 5:
                    due("worst(" + a + ", " + i + ", " + j + ")", bench.worst(a, i, j), model.worst(a, i, j));
                    break;
                case 6:
                    due("same(" + a + ", " + b + ")", bench.same(a, b), model.same(a, b));
                    break;
                default:
                    due("count(" + what + ")", bench.count(what), model.count(what));
            }
        }
    }

    /** (p + q i) / r in lowest terms. */
    private static final class Num {
        static final Num ZERO = of(0, 0, 1);
        static final Num ONE = of(1, 0, 1);
        static final BigInteger MOST = BigInteger.TEN.pow(24);
        final BigInteger p;
        final BigInteger q;
        final BigInteger r;

        Num(BigInteger p, BigInteger q, BigInteger r) {
            BigInteger g = p.gcd(q).gcd(r);
            if (r.signum() < 0) {
                g = g.negate();
            }
            this.p = p.divide(g);
            this.q = q.divide(g);
            this.r = r.divide(g);
        }

        static Num of(long p, long q, long r) {
            return new Num(BigInteger.valueOf(p), BigInteger.valueOf(q), BigInteger.valueOf(r));
        }

        Num plus(Num o) {
            return new Num(p.multiply(o.r).add(o.p.multiply(r)), q.multiply(o.r).add(o.q.multiply(r)), r.multiply(o.r));
        }

        Num minus(Num o) {
            return plus(o.times(of(-1, 0, 1)));
        }

        Num times(Num o) {
            return new Num(p.multiply(o.p).subtract(q.multiply(o.q)), p.multiply(o.q).add(q.multiply(o.p)), r.multiply(o.r));
        }

        Num mirrored() {
            return new Num(p, q.negate(), r);
        }

        Num by(Num o) {
            Num above = times(o.mirrored());
            Num below = o.times(o.mirrored());
            return new Num(above.p.multiply(below.r), above.q.multiply(below.r), above.r.multiply(below.p));
        }

        boolean isZero() {
            return p.signum() == 0 && q.signum() == 0;
        }

        Num size() {
            return times(mirrored());
        }

        int compare(Num o) {
            return p.multiply(o.r).compareTo(o.p.multiply(r));
        }

        boolean like(Num o) {
            return p.equals(o.p) && q.equals(o.q) && r.equals(o.r);
        }

        boolean big() {
            return p.abs().compareTo(MOST) > 0 || q.abs().compareTo(MOST) > 0 || r.compareTo(MOST) > 0;
        }
    }

    private static final class Box {
        final int ports;
        final Num[][][] s;

        Box(int ports) {
            this.ports = ports;
            s = new Num[4][ports][ports];
            for (Num[][] tone : s) {
                for (Num[] row : tone) {
                    java.util.Arrays.fill(row, Num.ZERO);
                }
            }
        }

        Box twin() {
            Box twin = new Box(ports);
            for (int t = 0; t < 4; t++) {
                for (int i = 0; i < ports; i++) {
                    twin.s[t][i] = s[t][i].clone();
                }
            }
            return twin;
        }

        boolean big() {
            for (Num[][] tone : s) {
                for (Num[] row : tone) {
                    for (Num n : row) {
                        if (n.big()) {
                            return true;
                        }
                    }
                }
            }
            return false;
        }
    }

    /** Thrown with the number of the divisor that is 0. */
    private static final class Zero extends RuntimeException {
        private static final long serialVersionUID = 1;
        final int divisor;

        Zero(int divisor) {
            this.divisor = divisor;
        }
    }

    private interface Tone {
        Num[][] at(int tone);
    }

    private static final class Model {
        final List<Box> boxes = new ArrayList<>();
        final Deque<Object[]> kept = new ArrayDeque<>();
        int noTone = -4;
        int noDivisor = -4;

        static Num divisor(int which, Num n) {
            if (n.isZero()) {
                throw new Zero(which);
            }
            return n;
        }

        boolean has(int box) {
            return box >= 0 && box < boxes.size();
        }

        boolean has(int box, int ports) {
            return has(box) && boxes.get(box).ports == ports;
        }

        boolean has(int box, int i, int j) {
            return has(box) && i >= 0 && j >= 0 && i < boxes.get(box).ports && j < boxes.get(box).ports;
        }

        void keep(int c, Box becomes) {
            kept.addLast(new Object[] {c, boxes.get(c)});
            if (kept.size() > 16) {
                kept.removeFirst();
            }
            boxes.set(c, becomes);
        }

        int act(int c, Tone made) {
            Box becomes = new Box(boxes.get(c).ports);
            for (int t = 0; t < 4; t++) {
                try {
                    becomes.s[t] = made.at(t);
                } catch (Zero zero) {
                    noTone = t;
                    noDivisor = zero.divisor;
                    return -2;
                }
            }
            if (becomes.big()) {
                return -5;
            }
            keep(c, becomes);
            return 0;
        }

        int box(int ports) {
            if (ports != 1 && ports != 2) {
                return -1;
            }
            if (boxes.size() == 16) {
                return -3;
            }
            boxes.add(new Box(ports));
            return boxes.size() - 1;
        }

        static boolean given(int p, int q, int r) {
            return Math.abs((long) p) <= 1000000 && Math.abs((long) q) <= 1000000 && r >= 1 && r <= 1000000;
        }

        int set(int box, int tone, int i, int j, int p, int q, int r) {
            if (!has(box, i, j) || tone < 0 || tone > 3 || !given(p, q, r)) {
                return -1;
            }
            Box becomes = boxes.get(box).twin();
            becomes.s[tone][i][j] = Num.of(p, q, r);
            keep(box, becomes);
            return 0;
        }

        int all(int box, int i, int j, int p, int q, int r) {
            if (!has(box, i, j) || !given(p, q, r)) {
                return -1;
            }
            Box becomes = boxes.get(box).twin();
            for (int t = 0; t < 4; t++) {
                becomes.s[t][i][j] = Num.of(p, q, r);
            }
            keep(box, becomes);
            return 0;
        }

        int copy(int c, int a) {
            if (!has(c) || !has(a) || boxes.get(c).ports != boxes.get(a).ports) {
                return -1;
            }
            keep(c, boxes.get(a).twin());
            return 0;
        }

        static Num[][] turned(Num[][] x) {
            return new Num[][] {{x[1][1], x[1][0]}, {x[0][1], x[0][0]}};
        }

        int join(int c, int a, int b) {
            if (!has(c, 2) || !has(a, 2) || !has(b, 2)) {
                return -1;
            }
            return act(c, t -> {
                Num[][] x = boxes.get(a).s[t];
                Num[][] y = boxes.get(b).s[t];
                Num e = divisor(1, Num.ONE.minus(x[1][1].times(y[0][0])));
                return new Num[][] {
                    {x[0][0].plus(x[0][1].times(x[1][0]).times(y[0][0]).by(e)), x[0][1].times(y[0][1]).by(e)},
                    {x[1][0].times(y[1][0]).by(e), y[1][1].plus(y[0][1].times(y[1][0]).times(x[1][1]).by(e))}};
            });
        }

        static Num[][] front(Num[][] w, Num[][] a) {
            Num g = w[0][0].minus(a[0][0]);
            divisor(1, a[0][1]);
            divisor(2, a[1][0]);
            Num f = divisor(3, a[0][1].times(a[1][0]).plus(a[1][1].times(g)));
            Num b00 = g.by(f);
            Num e = Num.ONE.minus(a[1][1].times(b00));
            Num b01 = w[0][1].times(e).by(a[0][1]);
            Num b10 = w[1][0].times(e).by(a[1][0]);
            Num b11 = w[1][1].minus(b01.times(b10).times(a[1][1]).by(e));
            return new Num[][] {{b00, b01}, {b10, b11}};
        }

        int takeOff(int c, int w, int a, int side) {
            if (!has(c, 2) || !has(w, 2) || !has(a, 2) || side < 0 || side > 1) {
                return -1;
            }
            return act(c, t -> side == 0 ? front(boxes.get(w).s[t], boxes.get(a).s[t])
                : turned(front(turned(boxes.get(w).s[t]), turned(boxes.get(a).s[t]))));
        }

        int turn(int c, int a) {
            return has(c, 2) && has(a, 2) ? act(c, t -> turned(boxes.get(a).s[t])) : -1;
        }

        int close(int c, int a, int k) {
            if (!has(c, 1) || !has(a, 2) || !has(k, 1)) {
                return -1;
            }
            return act(c, t -> {
                Num[][] x = boxes.get(a).s[t];
                Num y = boxes.get(k).s[t][0][0];
                Num e = divisor(1, Num.ONE.minus(x[1][1].times(y)));
                return new Num[][] {{x[0][0].plus(x[0][1].times(x[1][0]).times(y).by(e))}};
            });
        }

        int learn(int c, int k, int m) {
            if (!has(c, 2) || !has(k, 1) || !has(k + 1, 1) || !has(k + 2, 1) || !has(m, 1) || !has(m + 1, 1) || !has(m + 2, 1)) {
                return -1;
            }
            return act(c, t -> {
                Num k0 = boxes.get(k).s[t][0][0];
                Num k1 = boxes.get(k + 1).s[t][0][0];
                Num k2 = boxes.get(k + 2).s[t][0][0];
                Num m0 = boxes.get(m).s[t][0][0];
                Num m1 = boxes.get(m + 1).s[t][0][0];
                Num m2 = boxes.get(m + 2).s[t][0][0];
                Num x = k1.minus(k0);
                Num y = k2.minus(k0);
                Num xx = m1.times(k1).minus(m0.times(k0));
                Num yy = m2.times(k2).minus(m0.times(k0));
                Num d = divisor(1, x.times(yy).minus(y.times(xx)));
                Num w = x.times(m2.minus(m0)).minus(y.times(m1.minus(m0))).by(d);
                Num v = m1.minus(m0).times(yy).minus(m2.minus(m0).times(xx)).by(d);
                Num u = m0.minus(v.times(k0)).minus(w.times(m0).times(k0));
                return new Num[][] {{u, Num.ONE}, {v.plus(u.times(w)), w}};
            });
        }

        int correct(int c, int e, int m) {
            if (!has(c, 1) || !has(e, 2) || !has(m, 1)) {
                return -1;
            }
            return act(c, t -> {
                Num[][] x = boxes.get(e).s[t];
                Num g = boxes.get(m).s[t][0][0].minus(x[0][0]);
                return new Num[][] {{g.by(divisor(1, x[0][1].times(x[1][0]).plus(x[1][1].times(g))))}};
            });
        }

        int step(int c, int n, int d) {
            if (!has(c, 2) || n < 1 || n > 10000 || d < 1 || d > 10000) {
                return -1;
            }
            Num h = Num.of(n - d, 0, n + d);
            return act(c, t -> new Num[][] {{h, Num.ONE.minus(h)}, {Num.ONE.plus(h), Num.ZERO.minus(h)}});
        }

        int time(int c, int a, int i, int j) {
            if (!has(c, 1) || !has(a, i, j)) {
                return -1;
            }
            return act(c, n -> {
                Num sum = Num.ZERO;
                Num turn = Num.ONE;
                for (int t = 0; t < 4; t++) {
                    sum = sum.plus(boxes.get(a).s[t][i][j].times(turn));
                    for (int k = 0; k < n; k++) {
                        turn = turn.times(Num.of(0, 1, 1));
                    }
                }
                return new Num[][] {{sum.by(Num.of(4, 0, 1))}};
            });
        }

        int undo() {
            if (kept.isEmpty()) {
                return -2;
            }
            Object[] last = kept.removeLast();
            boxes.set((Integer) last[0], (Box) last[1]);
            return 1;
        }

        int where(int what) {
            return what == 0 ? noTone : what == 1 ? noDivisor : -1;
        }

        long part(int box, int tone, int i, int j, int what) {
            if (!has(box, i, j) || tone < 0 || tone > 3 || what < 0 || what > 5) {
                return -1000000000000000L;
            }
            Num n = boxes.get(box).s[tone][i][j];
            BigInteger of = what < 2 ? n.p : what < 4 ? n.q : n.r;
            return of.divideAndRemainder(BigInteger.TEN.pow(12))[what % 2].longValueExact();
        }

        int about(int box, int what) {
            if (!has(box) || what < 0 || what > 3) {
                return -1;
            }
            if (what == 0) {
                return boxes.get(box).ports;
            }
            int tones = 0;
            for (int t = 0; t < 4; t++) {
                tones += is(box, t, what);
            }
            return tones;
        }

        int is(int box, int tone, int what) {
            if (!has(box) || tone < 0 || tone > 3 || what < 1 || what > 3) {
                return -1;
            }
            Num[][] x = boxes.get(box).s[tone];
            boolean one = boxes.get(box).ports == 1;
            if (what == 1) {
                return one || x[0][1].like(x[1][0]) ? 1 : 0;
            }
            Num left = Num.ONE.minus(x[0][0].size());
            if (one) {
                return (what == 2 ? left.p.signum() >= 0 : left.isZero()) ? 1 : 0;
            }
            left = left.minus(x[1][0].size());
            Num right = Num.ONE.minus(x[0][1].size()).minus(x[1][1].size());
            Num cross = x[0][0].mirrored().times(x[0][1]).plus(x[1][0].mirrored().times(x[1][1])).size();
            if (what == 3) {
                return left.isZero() && right.isZero() && cross.isZero() ? 1 : 0;
            }
            return left.p.signum() >= 0 && right.p.signum() >= 0 && left.times(right).compare(cross) >= 0 ? 1 : 0;
        }

        int against(int tone, int a, int i, int j, int b, int k, int l) {
            if (!has(a, i, j) || !has(b, k, l) || tone < 0 || tone > 3) {
                return -9;
            }
            return boxes.get(a).s[tone][i][j].size().compare(boxes.get(b).s[tone][k][l].size());
        }

        int worst(int box, int i, int j) {
            if (!has(box, i, j)) {
                return -1;
            }
            int worst = 0;
            for (int t = 1; t < 4; t++) {
                if (boxes.get(box).s[t][i][j].size().compare(boxes.get(box).s[worst][i][j].size()) > 0) {
                    worst = t;
                }
            }
            return worst;
        }

        int same(int a, int b) {
            if (!has(a) || !has(b)) {
                return -1;
            }
            Box x = boxes.get(a);
            Box y = boxes.get(b);
            if (x.ports != y.ports) {
                return 0;
            }
            for (int t = 0; t < 4; t++) {
                for (int i = 0; i < x.ports; i++) {
                    for (int j = 0; j < x.ports; j++) {
                        if (!x.s[t][i][j].like(y.s[t][i][j])) {
                            return 0;
                        }
                    }
                }
            }
            return 1;
        }

        int count(int what) {
            return what == 0 ? boxes.size() : what == 1 ? kept.size() : -1;
        }
    }
}
