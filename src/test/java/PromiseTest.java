/** For each promise of the document ordinary calls, the edges that it names, and wrong arguments. */
public final class PromiseTest {
    private static final int BAD = -1, NO = -2, FULL = -3, NONE = -4, BIG = -5;
    private static final long BAD_PART = -1000000000000000L;
    private static final int LEAST = Integer.MIN_VALUE;
    private static final int GREATEST = Integer.MAX_VALUE;
    private static final long MILLION_MILLIONS = 1000000000000L;

    private static int passed;
    private static int failed;
    private static int promise;
    private static PortsBench x;

    public static void main(String[] args) {
        constants();
        start(1);
        aNewObject();
        start(2);
        box();
        start(3);
        set();
        start(4);
        all();
        start(5);
        copy();
        start(6);
        join();
        start(7);
        takeOff();
        start(8);
        turn();
        start(9);
        close();
        start(10);
        learn();
        start(11);
        correct();
        start(12);
        step();
        start(13);
        time();
        start(14);
        undo();
        start(15);
        where();
        start(16);
        part();
        start(17);
        about();
        start(18);
        is();
        start(19);
        against();
        start(20);
        worst();
        start(21);
        same();
        start(22);
        count();
        System.out.println("calls: " + passed + " as due, " + failed + " not");
        if (failed != 0) {
            System.exit(1);
        }
    }

    private static void start(int number) {
        promise = number;
        x = new PortsBench();
    }

    private static void due(String what, long got, long want) {
        if (got == want) {
            passed++;
        } else {
            failed++;
            System.out.println("promise " + promise + ": " + what + " answered " + got + ", due is " + want);
        }
    }

    /** Boxes with so many ports, from 0 on. */
    private static void boxes(int... ports) {
        for (int of : ports) {
            x.box(of);
        }
    }

    private static void allFour(int box, int[] s00, int[] s01, int[] s10, int[] s11) {
        due("all 0 0", x.all(box, 0, 0, s00[0], s00[1], s00[2]), 0);
        due("all 0 1", x.all(box, 0, 1, s01[0], s01[1], s01[2]), 0);
        due("all 1 0", x.all(box, 1, 0, s10[0], s10[1], s10[2]), 0);
        due("all 1 1", x.all(box, 1, 1, s11[0], s11[1], s11[2]), 0);
    }

    private static int[] n(int p, int q, int r) {
        return new int[] {p, q, r};
    }

    /** That S i j of a box at a tone is (p + q i) / r, each below a million millions. */
    private static void holds(int box, int tone, int i, int j, long p, long q, long r) {
        String of = "S " + i + " " + j + " of box " + box + " at tone " + tone + ": ";
        due(of + "p, above", x.part(box, tone, i, j, 0), 0);
        due(of + "p", x.part(box, tone, i, j, 1), p);
        due(of + "q, above", x.part(box, tone, i, j, 2), 0);
        due(of + "q", x.part(box, tone, i, j, 3), q);
        due(of + "r, above", x.part(box, tone, i, j, 4), 0);
        due(of + "r", x.part(box, tone, i, j, 5), r);
    }

    private static void holdsAtAll(int box, int i, int j, long p, long q, long r) {
        for (int tone = 0; tone < 4; tone++) {
            holds(box, tone, i, j, p, q, r);
        }
    }

    private static void constants() {
        due("BAD", PortsBench.BAD, -1);
        due("NO", PortsBench.NO, -2);
        due("FULL", PortsBench.FULL, -3);
        due("NONE", PortsBench.NONE, -4);
        due("BIG", PortsBench.BIG, -5);
    }

    private static void aNewObject() {
        due("boxes", x.count(0), 0);
        due("acts", x.count(1), 0);
        due("where 0", x.where(0), NONE);
        due("where 1", x.where(1), NONE);
        due("undo", x.undo(), NO);
        due("where 0 after undo", x.where(0), NONE);
        due("set", x.set(0, 0, 0, 0, 0, 0, 1), BAD);
        due("about", x.about(0, 0), BAD);
        due("part", x.part(0, 0, 0, 0, 0), BAD_PART);
        due("against", x.against(0, 0, 0, 0, 0, 0, 0), -9);
        due("worst", x.worst(0, 0, 0), BAD);
        due("same", x.same(0, 0), BAD);
        PortsBench other = new PortsBench();
        due("a box of one", other.box(1), 0);
        due("the other's boxes", x.count(0), 0);
    }

    private static void box() {
        int[] wrong = {0, 3, -1, LEAST, GREATEST};
        for (int ports : wrong) {
            due("box(" + ports + ")", x.box(ports), BAD);
        }
        for (int k = 0; k < 16; k++) {
            due("box " + k, x.box(1 + k % 2), k);
            due("ports of " + k, x.about(k, 0), 1 + k % 2);
            holds(k, 3, k % 2, k % 2, 0, 0, 1);
        }
        due("one more", x.box(1), FULL);
        due("two more", x.box(2), FULL);
        for (int ports : wrong) {
            due("box(" + ports + ") of a full bench", x.box(ports), BAD);
        }
        due("boxes", x.count(0), 16);
        due("no act", x.count(1), 0);
        due("undo", x.undo(), NO);
        due("boxes still", x.count(0), 16);
        holdsAtAll(15, 0, 1, 0, 0, 1);
        due("the last box", x.set(15, 3, 1, 1, 1, 2, 3), 0);
        holds(15, 3, 1, 1, 1, 2, 3);
    }

    private static void set() {
        boxes(2, 1);
        due("set", x.set(0, 2, 0, 1, 6, -4, 8), 0);
        holds(0, 2, 0, 1, 3, -2, 4);
        holds(0, 1, 0, 1, 0, 0, 1);
        holds(0, 3, 0, 1, 0, 0, 1);
        holds(0, 2, 1, 0, 0, 0, 1);
        holds(0, 2, 0, 0, 0, 0, 1);
        due("0 of 7", x.set(0, 2, 0, 1, 0, 0, 7), 0);
        holds(0, 2, 0, 1, 0, 0, 1);
        due("greatest", x.set(0, 0, 1, 1, 1000000, -1000000, 1), 0);
        holds(0, 0, 1, 1, 1000000, -1000000, 1);
        due("greatest r", x.set(0, 3, 1, 0, -1000000, 1, 1000000), 0);
        holds(0, 3, 1, 0, -1000000, 1, 1000000);
        due("all three shared", x.set(1, 3, 0, 0, -1000000, 1000000, 1000000), 0);
        holds(1, 3, 0, 0, -1, 1, 1);
        due("p 0", x.set(1, 0, 0, 0, 0, 999999, 3), 0);
        holds(1, 0, 0, 0, 0, 333333, 1);
        due("acts", x.count(1), 6);
        setWrong();
        due("acts still", x.count(1), 6);
        holds(1, 0, 0, 0, 0, 333333, 1);
    }

    private static void setWrong() {
        int[] notABox = {-1, 2, 16, LEAST, GREATEST};
        for (int box : notABox) {
            due("set of box " + box, x.set(box, 0, 0, 0, 1, 0, 1), BAD);
        }
        int[] notATone = {-1, 4, LEAST, GREATEST};
        for (int tone : notATone) {
            due("set at tone " + tone, x.set(1, tone, 0, 0, 1, 0, 1), BAD);
        }
        int[] notAPort = {-1, 2, LEAST, GREATEST};
        for (int port : notAPort) {
            due("set at i " + port, x.set(0, 0, port, 0, 1, 0, 1), BAD);
            due("set at j " + port, x.set(0, 0, 0, port, 1, 0, 1), BAD);
        }
        due("set at i 1 of one port", x.set(1, 0, 1, 0, 1, 0, 1), BAD);
        due("set at j 1 of one port", x.set(1, 0, 0, 1, 1, 0, 1), BAD);
        int[] tooGreat = {1000001, -1000001, LEAST, GREATEST};
        for (int value : tooGreat) {
            due("set p " + value, x.set(1, 0, 0, 0, value, 0, 1), BAD);
            due("set q " + value, x.set(1, 0, 0, 0, 0, value, 1), BAD);
            due("set r " + value, x.set(1, 0, 0, 0, 1, 0, value), BAD);
        }
        due("set r 0", x.set(1, 0, 0, 0, 1, 0, 0), BAD);
        due("set r -1", x.set(1, 0, 0, 0, 1, 0, -1), BAD);
    }

    private static void all() {
        boxes(2, 1);
        due("all", x.all(0, 1, 0, -9, 6, 12), 0);
        holdsAtAll(0, 1, 0, -3, 2, 4);
        holdsAtAll(0, 0, 1, 0, 0, 1);
        due("one tone after", x.set(0, 2, 1, 0, 1, 1, 1), 0);
        holds(0, 2, 1, 0, 1, 1, 1);
        holds(0, 3, 1, 0, -3, 2, 4);
        due("all of one port", x.all(1, 0, 0, 1000000, -1000000, 1000000), 0);
        holdsAtAll(1, 0, 0, 1, -1, 1);
        due("acts", x.count(1), 3);
        int[] wrong = {-1, 2, LEAST, GREATEST};
        for (int value : wrong) {
            due("all of box " + value, x.all(value, 0, 0, 1, 0, 1), BAD);
            due("all at i " + value, x.all(0, value, 0, 1, 0, 1), BAD);
            due("all at j " + value, x.all(0, 0, value, 1, 0, 1), BAD);
        }
        due("all at i 1 of one port", x.all(1, 1, 0, 1, 0, 1), BAD);
        due("all at j 1 of one port", x.all(1, 0, 1, 1, 0, 1), BAD);
        int[] tooGreat = {1000001, -1000001, LEAST, GREATEST};
        for (int value : tooGreat) {
            due("all p " + value, x.all(1, 0, 0, value, 0, 1), BAD);
            due("all q " + value, x.all(1, 0, 0, 0, value, 1), BAD);
            due("all r " + value, x.all(1, 0, 0, 1, 0, value), BAD);
        }
        due("all r 0", x.all(1, 0, 0, 1, 0, 0), BAD);
        due("acts still", x.count(1), 3);
        holdsAtAll(1, 0, 0, 1, -1, 1);
    }

    private static void copy() {
        boxes(2, 2, 1, 1);
        allFour(0, n(1, 2, 3), n(4, 5, 7), n(-1, 0, 2), n(0, 1, 9));
        x.set(0, 3, 0, 0, 7, 0, 1);
        due("copy", x.copy(1, 0), 0);
        due("same", x.same(0, 1), 1);
        holds(1, 0, 0, 1, 4, 5, 7);
        holds(1, 3, 0, 0, 7, 0, 1);
        x.set(0, 3, 0, 0, 8, 0, 1);
        holds(1, 3, 0, 0, 7, 0, 1);
        x.set(1, 2, 1, 1, 5, 0, 1);
        holds(0, 2, 1, 1, 0, 1, 9);
        int acts = x.count(1);
        due("copy of itself", x.copy(0, 0), 0);
        due("is an act", x.count(1), acts + 1);
        x.set(2, 1, 0, 0, 5, 5, 6);
        due("copy of one port", x.copy(3, 2), 0);
        holds(3, 1, 0, 0, 5, 5, 6);
        due("one to two", x.copy(0, 2), BAD);
        due("two to one", x.copy(2, 0), BAD);
        int[] wrong = {-1, 4, 16, LEAST, GREATEST};
        for (int box : wrong) {
            due("copy to " + box, x.copy(box, 0), BAD);
            due("copy of " + box, x.copy(0, box), BAD);
        }
        holds(0, 3, 0, 0, 8, 0, 1);
    }

    private static void join() {
        boxes(2, 2, 2, 1);
        allFour(0, n(1, 0, 3), n(1, 1, 2), n(1, -1, 2), n(-1, 0, 4));
        allFour(1, n(0, 1, 5), n(2, 0, 3), n(2, 0, 3), n(1, 2, 7));
        due("join", x.join(2, 0, 1), 0);
        for (int tone = 0; tone < 4; tone++) {
            holds(2, tone, 0, 0, 407, 120, 1203);
            holds(2, tone, 0, 1, 420, 380, 1203);
            holds(2, tone, 1, 0, 380, -420, 1203);
            holds(2, tone, 1, 1, 809, 7358, 25263);
        }
        x.copy(2, 0);
        due("join into the first of them", x.join(2, 2, 1), 0);
        holds(2, 1, 1, 1, 809, 7358, 25263);
        x.copy(2, 1);
        due("join into the second of them", x.join(2, 0, 2), 0);
        holds(2, 3, 1, 1, 809, 7358, 25263);
        joinWrong();
        joinRefused();
        joinToTheEdge();
    }

    private static void joinWrong() {
        int acts = x.count(1);
        int[] wrong = {-1, 3, 4, 16, LEAST, GREATEST};
        for (int box : wrong) {
            due("join into " + box, x.join(box, 0, 1), BAD);
            due("join of " + box, x.join(2, box, 1), BAD);
            due("join with " + box, x.join(2, 0, box), BAD);
        }
        due("acts", x.count(1), acts);
    }

    private static void joinRefused() {
        x = new PortsBench();
        boxes(2, 2, 2);
        allFour(0, n(1, 0, 1), n(1, 0, 1), n(1, 0, 1), n(1, 1, 2));
        due("1 - (1 + i) / 2 times 1 - i is 0, at two tones", x.set(1, 3, 0, 0, 1, -1, 1), 0);
        due("the other", x.set(1, 2, 0, 0, 1, -1, 1), 0);
        int acts = x.count(1);
        due("join", x.join(2, 0, 1), NO);
        due("where 0", x.where(0), 2);
        due("where 1", x.where(1), 1);
        due("acts", x.count(1), acts);
        holdsAtAll(2, 0, 0, 0, 0, 1);
        due("join the other way", x.join(2, 1, 0), 0);
        due("where 0 still", x.where(0), 2);
    }

    private static void joinToTheEdge() {
        x = new PortsBench();
        boxes(2, 2, 2, 2);
        allFour(0, n(1, 0, 1), n(1000000, 0, 1), n(1000000, 0, 1), n(0, 0, 1));
        due("10 to the 12", x.join(1, 0, 0), 0);
        due("10 to the 24, S00 0 before", x.all(1, 0, 0, 0, 0, 1), 0);
        due("S11 0 before", x.all(1, 1, 1, 0, 0, 1), 0);
        due("10 to the 24", x.join(2, 1, 1), 0);
        due("p by 10 to the 12", x.part(2, 3, 0, 1, 0), MILLION_MILLIONS);
        due("what is left of p", x.part(2, 3, 0, 1, 1), 0);
        allFour(3, n(1, 0, 1), n(1, 0, 1), n(1, 0, 1), n(0, 0, 1));
        due("1 before", x.all(1, 0, 0, 1, 0, 1), 0);
        due("10 to the 24, S00 1 with it", x.join(3, 1, 3), BIG);
        due("nothing changed", x.part(3, 0, 0, 1, 1), 1);
        due("-1 before", x.all(1, 0, 0, -1, 0, 1), 0);
        due("10 to the 24 less 1", x.join(3, 1, 3), 0);
        due("p by 10 to the 12", x.part(3, 3, 0, 0, 0), MILLION_MILLIONS - 1);
        due("what is left of p", x.part(3, 3, 0, 0, 1), MILLION_MILLIONS - 1);
        due("q", x.part(3, 3, 0, 0, 3), 0);
        allFour(3, n(0, -1, 1), n(1, 0, 1), n(1, 0, 1), n(0, 0, 1));
        due("-10 to the 24 i less 1", x.join(3, 1, 3), 0);
        due("q by 10 to the 12", x.part(3, 3, 0, 0, 2), -MILLION_MILLIONS);
        due("p", x.part(3, 3, 0, 0, 1), -1);
        due("S00 -i", x.all(1, 0, 0, 0, -1, 1), 0);
        allFour(3, n(0, -1, 1), n(1, 0, 1), n(1, 0, 1), n(0, 0, 1));
        due("-10 to the 24 i less i", x.join(3, 1, 3), BIG);
        noBeforeBig();
    }

    private static void noBeforeBig() {
        due("BIG at tones 0 to 2, NO at tone 3", x.set(3, 3, 0, 0, 1, 0, 1), 0);
        due("S11", x.set(1, 3, 1, 1, 1, 0, 1), 0);
        due("join", x.join(3, 1, 3), NO);
        due("where 0", x.where(0), 3);
        due("where 1", x.where(1), 1);
        x = new PortsBench();
        boxes(2, 2, 2);
        allFour(0, n(0, 0, 1), n(1, 0, 1000000), n(1, 0, 1000000), n(0, 0, 1));
        due("1 by 10 to the 12", x.join(1, 0, 0), 0);
        due("1 by 10 to the 24", x.join(1, 1, 1), 0);
        due("r by 10 to the 12", x.part(1, 2, 1, 0, 4), MILLION_MILLIONS);
        due("r left", x.part(1, 2, 1, 0, 5), 0);
        allFour(0, n(0, 0, 1), n(1, 0, 2), n(1, 0, 1), n(0, 0, 1));
        due("half of that", x.join(2, 1, 0), BIG);
        allFour(0, n(0, 0, 1), n(1000000, 0, 3), n(1, 0, 1), n(0, 0, 1));
        due("10 to the 6 by 3 times that", x.join(2, 1, 0), 0);
        due("r", x.part(2, 2, 0, 1, 4), 3000000);
        due("r left", x.part(2, 2, 0, 1, 5), 0);
    }

    private static void takeOff() {
        boxes(2, 2, 2, 2, 1);
        allFour(0, n(1, 0, 3), n(1, 1, 2), n(1, -1, 3), n(-1, 0, 4));
        allFour(1, n(0, 1, 5), n(2, 0, 3), n(2, 1, 3), n(1, 2, 7));
        x.set(0, 2, 0, 0, 5, 1, 7);
        x.set(1, 1, 1, 1, 3, 1, 8);
        due("join", x.join(2, 0, 1), 0);
        due("take off in front", x.takeOff(3, 2, 0, 0), 0);
        due("what was behind", x.same(3, 1), 1);
        due("take off behind", x.takeOff(3, 2, 1, 1), 0);
        due("what was in front", x.same(3, 0), 1);
        due("into itself", x.takeOff(2, 2, 1, 1), 0);
        due("what was in front", x.same(2, 0), 1);
        int acts = x.count(1);
        int[] wrong = {-1, 4, 5, 16, LEAST, GREATEST};
        for (int box : wrong) {
            due("take off into " + box, x.takeOff(box, 2, 0, 0), BAD);
            due("take off of " + box, x.takeOff(3, box, 0, 0), BAD);
            due("take " + box + " off", x.takeOff(3, 2, box, 0), BAD);
        }
        int[] notASide = {-1, 2, LEAST, GREATEST};
        for (int side : notASide) {
            due("side " + side, x.takeOff(3, 2, 0, side), BAD);
        }
        due("acts", x.count(1), acts);
        takeOffRefused();
        takeOffBig();
    }

    private static void takeOffRefused() {
        x = new PortsBench();
        boxes(2, 2, 2);
        allFour(0, n(1, 0, 3), n(1, 0, 2), n(1, 0, 2), n(1, 0, 1));
        allFour(1, n(1, 0, 3), n(1, 0, 2), n(1, 0, 2), n(1, 0, 1));
        refused(0, NONE, NONE);
        x.set(1, 3, 0, 0, 1, 0, 12);
        // 1 / 4 + 1 (1 / 12 - 1 / 3) is 0.
        refused(0, 3, 3);
        x.set(0, 2, 1, 0, 0, 0, 1);
        refused(0, 2, 2);
        refused(1, 2, 1);
        x.set(0, 1, 0, 1, 0, 0, 1);
        refused(0, 1, 1);
        refused(1, 1, 2);
        x.set(0, 0, 0, 1, 0, 0, 1);
        x.set(0, 0, 1, 0, 0, 0, 1);
        refused(0, 0, 1);
        refused(1, 0, 1);
        due("nothing changed", x.part(2, 0, 0, 1, 1), 1);
    }

    private static void refused(int side, int tone, int divisor) {
        int acts = x.count(1);
        due("take off", x.takeOff(2, 1, 0, side), tone == NONE ? 0 : NO);
        due("where 0", x.where(0), tone);
        due("where 1", x.where(1), divisor);
        due("acts", x.count(1), tone == NONE ? acts + 1 : acts);
    }

    private static void takeOffBig() {
        x = new PortsBench();
        boxes(2, 2, 2);
        allFour(0, n(1, 0, 3), n(1, 0, 1000000), n(999999, 0, 1000000), n(0, 0, 1));
        due("1 by 10 to the 12", x.join(1, 0, 0), 0);
        x.all(1, 0, 0, 1000000, 0, 1);
        x.all(1, 1, 1, 0, 0, 1);
        x.all(0, 0, 1, 0, 1000000, 1);
        x.all(0, 1, 0, 1000000, 0, 1);
        due("divides 10 to the 12 by 10 to the -24", x.takeOff(2, 0, 1, 0), BIG);
        due("nothing changed", x.part(2, 0, 0, 0, 1), 0);
        due("where", x.where(0), NONE);
    }

    private static void turn() {
        boxes(2, 2, 1);
        allFour(0, n(1, 0, 1), n(2, 0, 1), n(3, 0, 1), n(4, 5, 7));
        x.set(0, 3, 0, 1, 0, -8, 3);
        due("turn", x.turn(1, 0), 0);
        holds(1, 0, 0, 0, 4, 5, 7);
        holds(1, 0, 0, 1, 3, 0, 1);
        holds(1, 0, 1, 0, 2, 0, 1);
        holds(1, 0, 1, 1, 1, 0, 1);
        holds(1, 3, 1, 0, 0, -8, 3);
        holds(1, 3, 0, 1, 3, 0, 1);
        due("unlike", x.same(0, 1), 0);
        due("turn itself", x.turn(1, 1), 0);
        due("as it was", x.same(0, 1), 1);
        due("undo", x.undo(), 1);
        holds(1, 0, 0, 0, 4, 5, 7);
        int[] wrong = {-1, 2, 3, 16, LEAST, GREATEST};
        for (int box : wrong) {
            due("turn into " + box, x.turn(box, 0), BAD);
            due("turn of " + box, x.turn(0, box), BAD);
        }
    }

    private static void close() {
        boxes(2, 1, 1, 2);
        allFour(0, n(1, 1, 10), n(1, 0, 1), n(4, 1, 5), n(-1, 2, 9));
        x.all(1, 0, 0, 1, 0, 1);
        due("close", x.close(2, 0, 1), 0);
        holdsAtAll(2, 0, 0, 197, 107, 260);
        due("by nothing that comes back", x.all(1, 0, 0, 0, 0, 1), 0);
        due("close", x.close(1, 0, 1), 0);
        holdsAtAll(1, 0, 0, 1, 1, 10);
        due("S11 1", x.set(0, 1, 1, 1, 0, 1, 1), 0);
        due("1 / that", x.set(1, 1, 0, 0, 0, -1, 1), 0);
        due("close", x.close(2, 0, 1), NO);
        due("where 0", x.where(0), 1);
        due("where 1", x.where(1), 1);
        holdsAtAll(2, 0, 0, 197, 107, 260);
        int[] notOne = {-1, 0, 3, 4, 16, LEAST, GREATEST};
        for (int box : notOne) {
            due("close into " + box, x.close(box, 3, 1), BAD);
            due("close by " + box, x.close(2, 3, box), BAD);
        }
        int[] notTwo = {-1, 1, 2, 4, LEAST, GREATEST};
        for (int box : notTwo) {
            due("close " + box, x.close(2, box, 1), BAD);
        }
        closeBig();
    }

    private static void closeBig() {
        x = new PortsBench();
        boxes(2, 1, 1);
        allFour(0, n(0, 0, 1), n(1000000, 0, 1), n(1000000, 0, 1), n(0, 0, 1));
        x.all(1, 0, 0, 1000000, 0, 1);
        due("10 to the 18", x.close(1, 0, 1), 0);
        due("p", x.part(1, 1, 0, 0, 0), 1000000);
        x.set(0, 2, 1, 0, 1000000, 1, 1);
        due("10 to the 30 at each tone", x.close(2, 0, 1), BIG);
        x.all(0, 1, 0, 1, 0, 1);
        due("10 to the 24", x.close(2, 0, 1), 0);
        x.set(0, 2, 1, 0, 2, 0, 1);
        due("twice that at one tone", x.close(2, 0, 1), BIG);
        due("nothing changed", x.part(2, 2, 0, 0, 0), MILLION_MILLIONS);
        due("where", x.where(1), NONE);
    }

    private static void learn() {
        boxes(1, 1, 1, 1, 1, 1, 2, 2);
        x.all(0, 0, 0, 1, 0, 1);
        x.all(1, 0, 0, -1, 0, 1);
        allFour(6, n(1, 1, 10), n(1, 0, 1), n(4, 1, 5), n(-1, 2, 9));
        x.set(6, 3, 0, 0, 2, -7, 10);
        for (int k = 0; k < 3; k++) {
            due("close by " + k, x.close(3 + k, 6, k), 0);
        }
        due("learn", x.learn(7, 0, 3), 0);
        due("what it is", x.same(6, 7), 1);
        due("a perfect instrument", x.learn(7, 0, 0), 0);
        holdsAtAll(7, 0, 0, 0, 0, 1);
        holdsAtAll(7, 0, 1, 1, 0, 1);
        holdsAtAll(7, 1, 0, 1, 0, 1);
        holdsAtAll(7, 1, 1, 0, 0, 1);
        due("two known ones alike", x.set(2, 2, 0, 0, 1, 0, 1), 0);
        due("read alike", x.close(5, 6, 2), 0);
        due("learn", x.learn(7, 0, 3), NO);
        due("where 0", x.where(0), 2);
        due("where 1", x.where(1), 1);
        holdsAtAll(7, 1, 1, 0, 0, 1);
        due("known ones alike, read unlike", x.set(5, 2, 0, 0, 7, 0, 1), 0);
        due("learn", x.learn(7, 0, 3), 0);
        learnWrong();
        learnBig();
    }

    private static void learnWrong() {
        int acts = x.count(1);
        int[] notTwo = {-1, 0, 5, 8, LEAST, GREATEST};
        for (int box : notTwo) {
            due("learn into " + box, x.learn(box, 0, 3), BAD);
        }
        int[] notThree = {-1, -2, 4, 5, 6, 7, 8, LEAST, GREATEST, GREATEST - 1, GREATEST - 2};
        for (int box : notThree) {
            due("learn of " + box, x.learn(7, box, 3), BAD);
            due("learn by " + box, x.learn(7, 0, box), BAD);
        }
        due("at the end no third", x.box(1), 8);
        due("at the end no third", x.box(1), 9);
        due("learn of the last two", x.learn(7, 8, 3), BAD);
        due("learn by the last two", x.learn(7, 0, 8), BAD);
        due("a third", x.box(1), 10);
        due("learn of the last three", x.learn(7, 8, 3), NO);
        due("acts", x.count(1), acts);
    }

    private static void learnBig() {
        x = new PortsBench();
        boxes(1, 1, 1, 1, 1, 1, 2);
        int[] p = {999983, 999979, 999961, 999959, 999953, 999931};
        for (int k = 0; k < 6; k++) {
            x.all(k, 0, 0, p[k], 3 * k + 1, p[5 - k] - 1);
        }
        due("learn", x.learn(6, 0, 3), BIG);
        holdsAtAll(6, 0, 1, 0, 0, 1);
        due("acts", x.count(1), 6);
    }

    private static void correct() {
        boxes(1, 1, 1, 2);
        allFour(3, n(1, 1, 10), n(1, 0, 2), n(4, 1, 5), n(-1, 2, 9));
        x.all(0, 0, 0, 3, -4, 11);
        x.set(0, 2, 0, 0, 1, 0, 1);
        due("read", x.close(1, 3, 0), 0);
        due("undone", x.correct(2, 3, 1), 0);
        due("what it was", x.same(2, 0), 1);
        due("into itself", x.correct(1, 3, 1), 0);
        due("what it was", x.same(1, 0), 1);
        allFour(3, n(0, 0, 1), n(1, 0, 1), n(1, 0, 1), n(1, 0, 1));
        due("m -1: 1 + 1 (-1) is 0", x.set(1, 3, 0, 0, -1, 0, 1), 0);
        due("correct", x.correct(2, 3, 1), NO);
        due("where 0", x.where(0), 3);
        due("where 1", x.where(1), 1);
        due("what it was", x.same(2, 0), 1);
        int[] notOne = {-1, 3, 4, 16, LEAST, GREATEST};
        for (int box : notOne) {
            due("correct into " + box, x.correct(box, 3, 0), BAD);
            due("correct of " + box, x.correct(2, 3, box), BAD);
        }
        int[] notTwo = {-1, 0, 2, 4, LEAST, GREATEST};
        for (int box : notTwo) {
            due("correct by " + box, x.correct(2, box, 0), BAD);
        }
        allFour(3, n(1, 0, 1000000), n(1, 0, 1000000), n(1, 0, 1000000), n(0, 0, 1));
        x.all(0, 0, 0, 999999, 1000000, 999983);
        due("correct", x.correct(0, 3, 0), 0);
        due("correct again", x.correct(0, 3, 0), BIG);
    }

    private static void step() {
        boxes(2, 1, 2, 2);
        due("step", x.step(0, 50, 75), 0);
        holdsAtAll(0, 0, 0, -1, 0, 5);
        holdsAtAll(0, 1, 1, 1, 0, 5);
        holdsAtAll(0, 1, 0, 4, 0, 5);
        holdsAtAll(0, 0, 1, 6, 0, 5);
        due("step back", x.step(2, 75, 50), 0);
        due("join", x.join(3, 0, 2), 0);
        holdsAtAll(3, 0, 1, 1, 0, 1);
        holdsAtAll(3, 0, 0, 0, 0, 1);
        due("like to like", x.step(0, 7, 7), 0);
        holdsAtAll(0, 0, 0, 0, 0, 1);
        holdsAtAll(0, 1, 0, 1, 0, 1);
        holdsAtAll(0, 0, 1, 1, 0, 1);
        due("widest", x.step(0, 10000, 1), 0);
        holdsAtAll(0, 0, 0, 9999, 0, 10001);
        holdsAtAll(0, 1, 0, 20000, 0, 10001);
        holdsAtAll(0, 0, 1, 2, 0, 10001);
        due("other way", x.step(0, 1, 10000), 0);
        holdsAtAll(0, 1, 1, 9999, 0, 10001);
        int acts = x.count(1);
        int[] wrong = {0, -1, 10001, LEAST, GREATEST};
        for (int stuff : wrong) {
            due("from " + stuff, x.step(0, stuff, 1), BAD);
            due("to " + stuff, x.step(0, 1, stuff), BAD);
        }
        int[] notTwo = {-1, 1, 4, LEAST, GREATEST};
        for (int box : notTwo) {
            due("step into " + box, x.step(box, 1, 1), BAD);
        }
        due("acts", x.count(1), acts);
    }

    private static void time() {
        boxes(1, 1, 2);
        for (int tone = 0; tone < 4; tone++) {
            x.set(0, tone, 0, 0, tone + 1, 0, 1);
            x.set(2, tone, 1, 0, tone * tone, 1, 3);
        }
        due("time", x.time(1, 0, 0, 0), 0);
        holds(1, 0, 0, 0, 5, 0, 2);
        holds(1, 1, 0, 0, -1, -1, 2);
        holds(1, 2, 0, 0, -1, 0, 2);
        holds(1, 3, 0, 0, -1, 1, 2);
        due("of one way through two ports", x.time(1, 2, 1, 0), 0);
        // (0, 1, 4, 9) / 3, and i / 3 at each: 14 + 4 i, -4 - 8 i, -6, -4 + 8 i by 12.
        holds(1, 0, 0, 0, 7, 2, 6);
        holds(1, 1, 0, 0, -1, -2, 3);
        holds(1, 2, 0, 0, -1, 0, 2);
        holds(1, 3, 0, 0, -1, 2, 3);
        due("of the other way", x.time(1, 2, 0, 1), 0);
        holdsAtAll(1, 0, 0, 0, 0, 1);
        due("of itself", x.time(0, 0, 0, 0), 0);
        holds(0, 0, 0, 0, 5, 0, 2);
        holds(0, 3, 0, 0, -1, 1, 2);
        int[] notOne = {-1, 2, 3, LEAST, GREATEST};
        for (int box : notOne) {
            due("time into " + box, x.time(box, 0, 0, 0), BAD);
        }
        int[] notABox = {-1, 3, LEAST, GREATEST};
        for (int box : notABox) {
            due("time of " + box, x.time(1, box, 0, 0), BAD);
        }
        int[] notAPort = {-1, 2, LEAST, GREATEST};
        for (int port : notAPort) {
            due("time of i " + port, x.time(1, 2, port, 0), BAD);
            due("time of j " + port, x.time(1, 2, 0, port), BAD);
        }
        due("time of i 1 of one port", x.time(1, 0, 1, 0), BAD);
        due("time of j 1 of one port", x.time(1, 0, 0, 1), BAD);
        timeBig();
    }

    private static void timeBig() {
        x = new PortsBench();
        boxes(1, 1);
        int[] r = {999983, 999979, 999961, 999959};
        for (int tone = 0; tone < 4; tone++) {
            x.set(0, tone, 0, 0, 1, 0, r[tone]);
        }
        due("r some 4 times 10 to the 24", x.time(1, 0, 0, 0), BIG);
        due("acts", x.count(1), 4);
        holdsAtAll(1, 0, 0, 0, 0, 1);
        x.set(0, 2, 0, 0, 0, 0, 1);
        due("r below", x.time(1, 0, 0, 0), 0);
        due("r", x.part(1, 0, 0, 0, 4), 3999684);
    }

    private static void undo() {
        boxes(2, 1, 1);
        x.set(1, 0, 0, 0, 1, 0, 1);
        x.all(1, 0, 0, 2, 0, 1);
        x.copy(2, 1);
        x.step(0, 1, 4);
        x.turn(0, 0);
        x.close(2, 0, 1);
        x.time(2, 1, 0, 0);
        x.correct(2, 0, 1);
        due("acts", x.count(1), 8);
        due("a refused one", x.step(0, 0, 0), BAD);
        for (int k = 0; k < 3; k++) {
            due("undo", x.undo(), 1);
        }
        holdsAtAll(2, 0, 0, 2, 0, 1);
        holdsAtAll(0, 0, 0, 3, 0, 5);
        due("undo turn", x.undo(), 1);
        holdsAtAll(0, 0, 0, -3, 0, 5);
        due("undo step", x.undo(), 1);
        holdsAtAll(0, 0, 0, 0, 0, 1);
        due("undo copy", x.undo(), 1);
        holdsAtAll(2, 0, 0, 0, 0, 1);
        due("undo all", x.undo(), 1);
        holds(1, 0, 0, 0, 1, 0, 1);
        holds(1, 1, 0, 0, 0, 0, 1);
        due("acts", x.count(1), 1);
        due("undo set", x.undo(), 1);
        holds(1, 0, 0, 0, 0, 0, 1);
        due("none", x.undo(), NO);
        due("boxes", x.count(0), 3);
        for (int k = 1; k <= 40; k++) {
            x.set(1, k % 4, 0, 0, k, 0, 1);
            due("acts", x.count(1), Math.min(k, 16));
        }
        for (int k = 40; k > 24; k--) {
            holds(1, k % 4, 0, 0, k, 0, 1);
            due("undo", x.undo(), 1);
            holds(1, k % 4, 0, 0, k - 4, 0, 1);
        }
        due("no more are kept", x.undo(), NO);
        holds(1, 0, 0, 0, 24, 0, 1);
        due("an act after", x.set(1, 0, 0, 0, 5, 0, 1), 0);
        due("undo", x.undo(), 1);
        holds(1, 0, 0, 0, 24, 0, 1);
    }

    private static void where() {
        boxes(2, 2, 1);
        int[] wrong = {-1, 2, LEAST, GREATEST};
        for (int what : wrong) {
            due("where(" + what + ") before", x.where(what), BAD);
        }
        due("none was", x.where(0), NONE);
        due("none was", x.where(1), NONE);
        x.all(0, 1, 1, 1, 0, 1);
        x.set(1, 2, 0, 0, 1, 0, 1);
        due("join", x.join(1, 0, 1), NO);
        due("where 0", x.where(0), 2);
        due("where 1", x.where(1), 1);
        x.all(0, 0, 1, 1, 0, 1);
        due("BAD leaves it", x.join(2, 0, 1), BAD);
        due("where 0", x.where(0), 2);
        due("take off", x.takeOff(1, 1, 0, 0), NO);
        due("where 0", x.where(0), 0);
        due("where 1", x.where(1), 2);
        for (int k = 0; k < 3; k++) {
            due("undo leaves it", x.undo(), 1);
        }
        due("undo with none leaves it", x.undo(), NO);
        due("where 0", x.where(0), 0);
        due("where 1", x.where(1), 2);
        for (int what : wrong) {
            due("where(" + what + ")", x.where(what), BAD);
        }
    }

    private static void part() {
        boxes(2, 2, 1);
        allFour(0, n(0, 0, 1), n(-999983, 0, 999979), n(0, -999961, 999959), n(0, 0, 1));
        due("join", x.join(1, 0, 0), 0);
        due("join", x.join(1, 1, 1), 0);
        // 999983 to the 4 is 999932001733980348083521, 999979 to the 4 is 999916002645962956194481.
        due("p", x.part(1, 0, 0, 1, 0), 999932001733L);
        due("p left", x.part(1, 0, 0, 1, 1), 980348083521L);
        due("q", x.part(1, 0, 0, 1, 2), 0);
        due("q left", x.part(1, 0, 0, 1, 3), 0);
        due("r", x.part(1, 0, 0, 1, 4), 999916002645L);
        due("r left", x.part(1, 0, 0, 1, 5), 962956194481L);
        allFour(0, n(0, 0, 1), n(0, -1, 1), n(-1, 0, 1), n(0, 0, 1));
        due("turned", x.join(1, 1, 0), 0);
        due("q below 0", x.part(1, 3, 0, 1, 2), -999932001733L);
        due("q left below 0", x.part(1, 3, 0, 1, 3), -980348083521L);
        due("p 0", x.part(1, 3, 0, 1, 0), 0);
        // 999961 to the 4 is 999844009125762726313441 (and i to the 4 is 1), and now below 0.
        due("p below 0", x.part(1, 3, 1, 0, 0), -999844009125L);
        due("p left below 0", x.part(1, 3, 1, 0, 1), -762726313441L);
        int[] notABox = {-1, 3, LEAST, GREATEST};
        for (int box : notABox) {
            due("part of box " + box, x.part(box, 0, 0, 0, 0), BAD_PART);
        }
        int[] notATone = {-1, 4, LEAST, GREATEST};
        for (int tone : notATone) {
            due("part at tone " + tone, x.part(0, tone, 0, 0, 0), BAD_PART);
        }
        int[] notAPort = {-1, 2, LEAST, GREATEST};
        for (int port : notAPort) {
            due("part at i " + port, x.part(0, 0, port, 0, 0), BAD_PART);
            due("part at j " + port, x.part(0, 0, 0, port, 0), BAD_PART);
        }
        due("part at i 1 of one port", x.part(2, 0, 1, 0, 0), BAD_PART);
        due("part at j 1 of one port", x.part(2, 0, 0, 1, 0), BAD_PART);
        int[] notAPart = {-1, 6, LEAST, GREATEST};
        for (int what : notAPart) {
            due("part " + what, x.part(0, 0, 0, 0, what), BAD_PART);
        }
    }

    private static void about() {
        boxes(1, 2);
        due("ports", x.about(0, 0), 1);
        due("ports", x.about(1, 0), 2);
        due("one port like both ways", x.about(0, 1), 4);
        due("nothing is passive", x.about(0, 2), 4);
        due("nothing is passive", x.about(1, 2), 4);
        due("nothing loses", x.about(0, 3), 0);
        due("nothing loses", x.about(1, 3), 0);
        due("nothing is like both ways", x.about(1, 1), 4);
        x.set(0, 1, 0, 0, 3, 4, 5);
        x.set(0, 2, 0, 0, 3, 4, 4);
        x.set(0, 3, 0, 0, 0, -1, 1);
        due("passive", x.about(0, 2), 3);
        due("lossless", x.about(0, 3), 2);
        x.all(1, 0, 1, 0, 1, 1);
        x.set(1, 0, 1, 0, 0, 1, 1);
        x.set(1, 1, 1, 0, 1, 0, 1);
        x.set(1, 2, 1, 0, 1, 1, 1);
        due("like both ways", x.about(1, 1), 1);
        due("passive", x.about(1, 2), 3);
        due("lossless", x.about(1, 3), 2);
        int[] notABox = {-1, 2, LEAST, GREATEST};
        for (int box : notABox) {
            due("about " + box, x.about(box, 0), BAD);
        }
        int[] notThat = {-1, 4, LEAST, GREATEST};
        for (int what : notThat) {
            due("about what " + what, x.about(1, what), BAD);
        }
    }

    private static void is() {
        boxes(1, 2);
        allFour(1, n(3, 0, 5), n(0, 4, 5), n(0, 4, 5), n(3, 0, 5));
        isThat(1, 1, 1, 1);
        // The sizes are right, but the two ways do not cancel: 3 / 5 times 4 / 5, twice.
        x.all(1, 0, 1, 4, 0, 5);
        x.all(1, 1, 0, 4, 0, 5);
        isThat(1, 1, 0, 0);
        x.all(1, 1, 1, -3, 0, 5);
        isThat(1, 1, 1, 1);
        // Some lost: 1 - 1/4 - 1/4 is 1/2 both times, the crossing's size 1/4, then just as great as 1/4.
        allFour(1, n(1, 0, 2), n(1, 0, 2), n(1, 0, 2), n(1, 0, 2));
        isThat(1, 1, 1, 0);
        x.all(1, 1, 1, 500001, 0, 1000000);
        isThat(1, 1, 0, 0);
        x.all(1, 1, 1, 499999, 0, 1000000);
        isThat(1, 1, 1, 0);
        // Both lack less than 0: their product is above 0, and yet it is not passive.
        allFour(1, n(2, 0, 1), n(0, 0, 1), n(0, 0, 1), n(2, 0, 1));
        isThat(1, 1, 0, 0);
        // Only the second way brings out more.
        allFour(1, n(0, 0, 1), n(1, 0, 1), n(0, 0, 1), n(1, 0, 1000000));
        isThat(1, 0, 0, 0);
        allFour(1, n(1, 0, 1), n(0, 0, 1), n(1, 0, 1000000), n(0, 0, 1));
        isThat(1, 0, 0, 0);
        x.all(1, 1, 0, 0, 0, 1);
        isThat(1, 1, 1, 0);
        isThat(0, 1, 1, 0);
        x.all(0, 0, 0, 5, 12, 13);
        isThat(0, 1, 1, 1);
        x.all(0, 0, 0, 1000000, 1, 1000000);
        isThat(0, 1, 0, 0);
        x.all(0, 0, 0, 999999, 999, 1000000);
        isThat(0, 1, 1, 0);
        x.set(0, 2, 0, 0, 1, 0, 1);
        due("at tone 2", x.is(0, 2, 3), 1);
        due("at tone 1", x.is(0, 1, 3), 0);
        isWrong();
    }

    private static void isThat(int box, int likeBothWays, int passive, int lossless) {
        for (int tone = 0; tone < 4; tone++) {
            due("like both ways", x.is(box, tone, 1), likeBothWays);
            due("passive", x.is(box, tone, 2), passive);
            due("lossless", x.is(box, tone, 3), lossless);
        }
    }

    private static void isWrong() {
        int[] notABox = {-1, 2, LEAST, GREATEST};
        for (int box : notABox) {
            due("is of box " + box, x.is(box, 0, 1), BAD);
        }
        int[] notATone = {-1, 4, LEAST, GREATEST};
        for (int tone : notATone) {
            due("is at tone " + tone, x.is(0, tone, 1), BAD);
        }
        int[] notThat = {0, -1, 4, LEAST, GREATEST};
        for (int what : notThat) {
            due("is what " + what, x.is(1, 0, what), BAD);
        }
    }

    private static void against() {
        boxes(2, 1);
        x.all(0, 0, 1, 3, 4, 1);
        x.all(0, 1, 0, 0, -5, 1);
        x.all(1, 0, 0, 999999, 0, 200000);
        x.set(1, 2, 0, 0, 1000000, 1, 200000);
        due("like", x.against(0, 0, 0, 1, 0, 1, 0), 0);
        due("like itself", x.against(3, 1, 0, 0, 1, 0, 0), 0);
        due("greater", x.against(0, 0, 0, 1, 1, 0, 0), 1);
        due("less", x.against(0, 1, 0, 0, 0, 1, 0), -1);
        due("less at tone 2", x.against(2, 0, 0, 1, 1, 0, 0), -1);
        due("greater at tone 2", x.against(2, 1, 0, 0, 0, 0, 1), 1);
        due("nothing against nothing", x.against(1, 0, 0, 0, 0, 1, 1), 0);
        due("nothing", x.against(1, 0, 0, 0, 0, 1, 0), -1);
        int[] notATone = {-1, 4, LEAST, GREATEST};
        for (int tone : notATone) {
            due("against at tone " + tone, x.against(tone, 0, 0, 0, 0, 0, 0), -9);
        }
        int[] wrong = {-1, 2, LEAST, GREATEST};
        for (int value : wrong) {
            due("a " + value, x.against(0, value, 0, 0, 0, 0, 0), -9);
            due("i " + value, x.against(0, 0, value, 0, 0, 0, 0), -9);
            due("j " + value, x.against(0, 0, 0, value, 0, 0, 0), -9);
            due("b " + value, x.against(0, 0, 0, 0, value, 0, 0), -9);
            due("k " + value, x.against(0, 0, 0, 0, 0, value, 0), -9);
            due("l " + value, x.against(0, 0, 0, 0, 0, 0, value), -9);
        }
        due("i 1 of one port", x.against(0, 1, 1, 0, 0, 0, 0), -9);
        due("j 1 of one port", x.against(0, 1, 0, 1, 0, 0, 0), -9);
        due("k 1 of one port", x.against(0, 0, 0, 0, 1, 1, 0), -9);
        due("l 1 of one port", x.against(0, 0, 0, 0, 1, 0, 1), -9);
    }

    private static void worst() {
        boxes(2, 1);
        due("of several the first", x.worst(0, 0, 0), 0);
        x.set(0, 1, 1, 0, 3, 4, 5);
        x.set(0, 2, 1, 0, 0, -1, 1);
        x.set(0, 3, 1, 0, 1, 0, 1);
        due("of several the first", x.worst(0, 1, 0), 1);
        x.set(0, 3, 1, 0, 1000000, 1, 1000000);
        due("the last", x.worst(0, 1, 0), 3);
        x.set(0, 0, 1, 0, -2, 0, 1);
        due("the first", x.worst(0, 1, 0), 0);
        due("another way", x.worst(0, 0, 1), 0);
        x.set(1, 2, 0, 0, 1, 0, 1000000);
        due("of one port", x.worst(1, 0, 0), 2);
        int[] wrong = {-1, 2, LEAST, GREATEST};
        for (int value : wrong) {
            due("worst of box " + value, x.worst(value, 0, 0), BAD);
            due("worst at i " + value, x.worst(0, value, 0), BAD);
            due("worst at j " + value, x.worst(0, 0, value), BAD);
        }
        due("worst at i 1 of one port", x.worst(1, 1, 0), BAD);
        due("worst at j 1 of one port", x.worst(1, 0, 1), BAD);
    }

    private static void same() {
        boxes(2, 2, 1, 1);
        due("new ones", x.same(0, 1), 1);
        due("new ones", x.same(2, 3), 1);
        due("unlike ports", x.same(0, 2), 0);
        due("unlike ports", x.same(2, 0), 0);
        due("itself", x.same(3, 3), 1);
        for (int tone = 0; tone < 4; tone++) {
            for (int entry = 0; entry < 4; entry++) {
                x.set(0, tone, entry / 2, entry % 2, 0, 1, 3);
                due("one number unlike", x.same(0, 1), 0);
                x.set(1, tone, entry / 2, entry % 2, 0, 2, 6);
                due("the same in lowest terms", x.same(1, 0), 1);
            }
        }
        x.set(2, 3, 0, 0, 1, 0, 1);
        due("unlike at the last tone", x.same(2, 3), 0);
        int[] notABox = {-1, 4, 16, LEAST, GREATEST};
        for (int box : notABox) {
            due("same a " + box, x.same(box, 0), BAD);
            due("same b " + box, x.same(0, box), BAD);
        }
    }

    private static void count() {
        due("boxes", x.count(0), 0);
        boxes(2, 1, 0, 3);
        due("boxes", x.count(0), 2);
        due("acts", x.count(1), 0);
        due("an act", x.step(0, 1, 2), 0);
        due("acts", x.count(1), 1);
        due("a refused one", x.step(1, 1, 2), BAD);
        due("acts", x.count(1), 1);
        x.undo();
        due("acts", x.count(1), 0);
        x.undo();
        due("acts", x.count(1), 0);
        int[] wrong = {-1, 2, LEAST, GREATEST};
        for (int what : wrong) {
            due("count(" + what + ")", x.count(what), BAD);
        }
    }
}
