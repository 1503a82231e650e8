import java.util.ArrayList;
import java.util.List;

/** Of acts: when they are refused, with what, what is told of it, and that nothing changes then. */
final class RefusalEdges extends Edges {
    private static final int A = 0, B = 1, C = 2, K = 3, M = 6, C1 = 9, W = 10, TWIN_OF_C = 11, TWIN_OF_C1 = 12;

    /** An act, one of its divisors, and how that becomes 0 at a tone while all else stays right. */
    private record Divisor(String name, int number, Call act, Call makeZero) {
    }

    private final List<Divisor> divisors = new ArrayList<>();

    RefusalEdges() {
        Call join = c -> x.join(c, A, B);
        Call front = c -> x.takeOff(c, W, A, 0);
        Call behind = c -> x.takeOff(c, W, A, 1);
        divisors.add(new Divisor("join", 1, join, tone -> x.set(B, tone, 0, 0, 1, 0, 1)));
        divisors.add(new Divisor("front", 1, front, tone -> x.set(A, tone, 0, 1, 0, 0, 1)));
        divisors.add(new Divisor("front", 2, front, tone -> x.set(A, tone, 1, 0, 0, 0, 1)));
        // 1 / 4 + 1 (1 / 12 - 1 / 3)
        divisors.add(new Divisor("front", 3, front, tone -> x.set(W, tone, 0, 0, 1, 0, 12)));
        divisors.add(new Divisor("behind", 1, behind, tone -> x.set(A, tone, 1, 0, 0, 0, 1)));
        divisors.add(new Divisor("behind", 2, behind, tone -> x.set(A, tone, 0, 1, 0, 0, 1)));
        // 1 / 4 + 1 / 3 (1 / 4 - 1)
        divisors.add(new Divisor("behind", 3, behind, tone -> x.set(W, tone, 1, 1, 1, 0, 4)));
        divisors.add(new Divisor("close", 1, c -> x.close(c, A, K), tone -> x.set(K, tone, 0, 0, 1, 0, 1)));
        // (-1 / 6) (3 / 2) + (3 / 2) (1 / 6)
        divisors.add(new Divisor("learn", 1, c -> x.learn(c, K, M), tone -> x.set(M + 2, tone, 0, 0, -2, 0, 1)));
        divisors.add(new Divisor("correct", 1, c -> x.correct(c, A, M), tone -> x.set(M, tone, 0, 0, 1, 0, 12)));
    }

    void go() {
        for (Divisor divisor : divisors) {
            noAtEachTone(divisor);
            leastTone(divisor);
            noBeforeBig(divisor);
            badBeforeNo(divisor);
        }
        bigOfEachAct();
        rightAfterBig();
        divisorsInOrder();
        tonesBeforeDivisors();
        firstOfSeveral();
        nothingChanges();
        end();
    }

    private static boolean onePort(Divisor divisor) {
        return divisor.name().equals("close") || divisor.name().equals("correct");
    }

    private static int into(Divisor divisor) {
        return onePort(divisor) ? C1 : C;
    }

    private static int twin(Divisor divisor) {
        return onePort(divisor) ? TWIN_OF_C1 : TWIN_OF_C;
    }

    /** With these no divisor is 0, and no number too great. */
    private void start() {
        boxes(2, 2, 2, 1, 1, 1, 1, 1, 1, 1, 2, 2, 1);
        int[] third = n(1, 0, 3);
        int[] half = n(1, 0, 2);
        two(A, third, half, half, n(1));
        two(B, half, n(1), n(1), third);
        two(W, third, half, half, n(1));
        one(K, half);
        one(K + 1, third);
        one(K + 2, n(-1));
        one(M, n(1));
        one(M + 1, n(2));
        one(M + 2, n(-3));
        due(0, x.step(C, 1, 2));
        one(C1, n(1, 2, 7));
        due(0, x.copy(TWIN_OF_C, C));
        due(0, x.copy(TWIN_OF_C1, C1));
    }

    private void noAtEachTone(Divisor of) {
        told(TERMS, "it is refused with NO if at some TONE a number that must be divided by is 0");
        start();
        for (int tone = 0; tone < 4; tone++) {
            due(0, of.makeZero().at(tone));
            int acts = x.count(1);
            due(NO, of.act().at(into(of)));
            where(tone, of.number());
            due(acts, x.count(1));
            due(1, x.same(into(of), twin(of)));
            due(1, x.undo());
            due(0, of.act().at(into(of)));
            where(tone, of.number());
            due(0, x.copy(into(of), twin(of)));
        }
    }

    private void leastTone(Divisor of) {
        told(TERMS, "(the least such TONE is told by where(),");
        start();
        int[] tones = {3, 1, 2, 0};
        int[] least = {3, 1, 1, 0};
        for (int k = 0; k < 4; k++) {
            due(0, of.makeZero().at(tones[k]));
            due(NO, of.act().at(into(of)));
            where(least[k], of.number());
        }
    }

    /** What the act makes is too great at all tones, but for the one with a divisor that is 0. */
    private void noBeforeBig(Divisor of) {
        for (int tone = 0; tone < 4; tone += 3) {
            told(TERMS, "it is refused with NO if at some TONE a number that must be divided by is 0 "
                + "(the least such TONE is told by where(), with which of the DIVISORS told, in order from 1 on), then with BIG");
            start();
            makeBig(of.name());
            due(BIG, of.act().at(into(of)));
            where(NONE, NONE);
            due(1, x.same(into(of), twin(of)));
            zeroWhenBig(of, tone);
            int acts = x.count(1);
            due(NO, of.act().at(into(of)));
            where(tone, of.number());
            due(1, x.same(into(of), twin(of)));
            due(acts, x.count(1));
            due(1, x.undo());
            due(BIG, of.act().at(into(of)));
            where(tone, of.number());
        }
    }

    private void makeBig(String act) {
        int[] third = n(1, 0, 3);
        switch (act) {
            case "join":
                powers(A, n(1000000), 2);
                entry(A, 1, 1, n(1));
                entry(B, 0, 1, n(2));
                break;
            case "front":
            case "behind":
                powers(W, n(1000000), 2);
                entry(W, 0, 0, third);
                entry(W, 1, 1, n(1));
                break;
            case "close":
                powers(A, n(1000000), 2);
                entry(A, 1, 1, n(1));
                break;
            case "learn":
                // v is 2 times 10 to the 24.
                powers(A, n(1000000), 1);
                one(M, n(-1));
                due(0, x.close(M + 2, A, M));
                one(M, n(1));
                due(0, x.close(M + 1, A, M));
                one(M, n(0));
                one(K, n(0));
                one(K + 1, n(1, 0, 2));
                one(K + 2, n(-1, 0, 2));
                break;
            default:
                powers(A, n(1000000), 1);
                one(M, n(1));
                due(0, x.close(M, A, M));
                two(A, n(0), n(1, 0, 2), n(1), n(0));
        }
    }

    private void zeroWhenBig(Divisor of, int tone) {
        if (of.name().equals("learn")) {
            // A known one like the first, and read alike so far as it comes back.
            due(0, x.set(K + 1, tone, 0, 0, 0, 0, 1));
        } else if (of.name().equals("correct")) {
            due(0, x.set(A, tone, 0, 1, 0, 0, 1));
        } else {
            due(0, of.makeZero().at(tone));
        }
    }

    private void badBeforeNo(Divisor of) {
        told(TERMS, "Of several the first;");
        start();
        due(0, of.makeZero().at(2));
        each(BAD, of.act(), -1, 13, 16, LEAST, GREATEST, into(of) == C ? C1 : C);
        where(NONE, NONE);
        due(NO, of.act().at(into(of)));
        where(2, of.number());
        each(BAD, of.act(), -1, into(of) == C ? C1 : C);
        where(2, of.number());
    }

    /** BIG by each act that may be so, at each tone alone, and not by what is just not too great. */
    private void bigOfEachAct() {
        told(TERMS, "then with BIG if it is so at some TONE.");
        boxes(2, 2, 2, 2);
        // B01 is C01 by A01: twice 10 to the 24 at one tone, and there 1 by twice 10 to the 24.
        powers(0, n(1000000), 2);
        two(1, n(0), n(1), n(1), n(0));
        for (int tone = 0; tone < 4; tone++) {
            due(0, x.set(1, tone, 0, 1, 1, 0, 2));
            due(BIG, x.takeOff(2, 0, 1, 0));
            due(BIG, x.takeOff(2, 0, 1, 1));
            due(1, x.same(2, 3));
            due(1, x.undo());
        }
        due(0, x.takeOff(2, 0, 1, 0));
        holdsAtAll(2, 0, 1, E24, "0", "1");
        due(0, x.takeOff(2, 0, 1, 1));
        holdsAtAll(2, 1, 0, E24, "0", "1");

        told(TERMS, "then with BIG if it is so at some TONE.");
        boxes(2, 1, 1, 1, 1, 1, 1, 2, 2);
        powers(0, n(1000000), 1);
        one(5, n(1));
        one(6, n(-1));
        due(0, x.close(5, 0, 5));
        due(0, x.close(6, 0, 6));
        one(2, n(1));
        one(3, n(-1));
        // Of 0, 1, -1 are read 0, 10 to the 24, and that below 0: v is 10 to the 24.
        for (int tone = 0; tone < 4; tone++) {
            due(0, x.set(2, tone, 0, 0, 1, 0, 2));
            due(0, x.set(3, tone, 0, 0, -1, 0, 2));
            due(BIG, x.learn(7, 1, 4));
            due(1, x.same(7, 8));
            due(1, x.undo());
            due(1, x.undo());
        }
        due(0, x.learn(7, 1, 4));
        holdsAtAll(7, 1, 0, E24, "0", "1");
        holdsAtAll(7, 0, 1, 1, 0, 1);
        correctAndTime();
    }

    private void correctAndTime() {
        told(TERMS, "then with BIG if it is so at some TONE.");
        boxes(2, 1, 1, 1);
        powers(0, n(1000000), 1);
        one(1, n(-1));
        due(0, x.close(1, 0, 1));
        two(0, n(0), n(1), n(1), n(0));
        for (int tone = 0; tone < 4; tone++) {
            due(0, x.set(0, tone, 1, 0, 999999, 0, 1000000));
            due(BIG, x.correct(2, 0, 1));
            due(1, x.same(2, 3));
            due(1, x.undo());
        }
        due(0, x.correct(2, 0, 1));
        holdsAtAll(2, 0, 0, "-" + E24, "0", "1");

        told(13, "BAD; BIG.");
        boxes(2, 1, 1, 1);
        // 4 by 10 to the 24, at tone 0 alone, is 1 by that at all times.
        powers(0, n(1, 0, 1000000), 1);
        one(1, n(4));
        due(0, x.close(1, 0, 1));
        for (int tone = 1; tone < 4; tone++) {
            due(0, x.set(1, tone, 0, 0, 0, 0, 1));
        }
        due(0, x.time(2, 1, 0, 0));
        holdsAtAll(2, 0, 0, "1", "0", E24);
        // 1 by 10 to the 24, and a quarter of it.
        for (int tone = 1; tone < 4; tone++) {
            due(0, x.set(2, tone, 0, 0, 0, 0, 1));
        }
        due(BIG, x.time(3, 2, 0, 0));
        holdsAtAll(3, 0, 0, 0, 0, 1);
    }

    /** What was too great, or half made when a divisor was 0, leaves nothing in what is made next. */
    private void rightAfterBig() {
        Call[] acts = {c -> x.join(5, 3, 3), c -> x.takeOff(5, 3, 3, 0), c -> x.takeOff(5, 3, 3, 1), c -> x.learn(5, 6, 6),
            c -> x.close(9, 3, 6), c -> x.correct(9, 3, 6), c -> x.time(9, 6, 0, 0), c -> x.copy(9, 6), c -> x.turn(5, 3),
            c -> x.step(5, 2, 1), c -> x.set(9, 0, 0, 0, 1, 1, 7), c -> x.all(9, 0, 0, 1, 1, 7)};
        for (Call act : acts) {
            told(TERMS, "nothing changes then (but where(), by NO).");
            boxes(2, 2, 2, 2, 2, 2, 1, 1, 1, 1, 1, 1);
            two(3, n(1, 0, 3), n(1, 0, 2), n(1, 1, 2), n(1, 0, 5));
            one(6, n(1));
            one(7, n(1, 0, 2));
            one(8, n(1, 2, 3));
            due(0, act.at(0));
            due(0, x.copy(4, 5));
            due(0, x.copy(10, 9));
            due(0, x.copy(5, 1));
            due(0, x.copy(9, 11));
            powers(0, n(1000000), 2);
            entry(0, 1, 1, n(1));
            due(BIG, x.join(2, 0, 0));
            due(0, act.at(0));
            due(1, x.same(4, 5));
            due(1, x.same(10, 9));
            due(1, x.undo());
            // At tone 3 alone 1 - 1 is 0, after the other tones are made.
            due(0, x.set(1, 3, 0, 0, 1, 0, 1));
            due(NO, x.join(2, 0, 1));
            due(0, act.at(0));
            due(1, x.same(4, 5));
            due(1, x.same(10, 9));
        }

        told(TERMS, "nothing changes then (but where(), by NO).");
        boxes(2, 2, 1, 1, 1);
        // What has one port is the same as another that came about otherwise.
        powers(0, n(1000000), 2);
        one(2, n(1));
        due(BIG, x.join(1, 0, 0));
        two(0, n(1, 0, 2), n(1), n(1, 0, 4), n(1, 0, 2));
        due(0, x.close(3, 0, 2));
        due(1, x.same(3, 2));
        due(0, x.step(1, 3, 1));
        due(0, x.correct(3, 0, 2));
        due(1, x.same(3, 2));
        due(0, x.step(1, 1, 3));
        due(0, x.set(4, 0, 0, 0, 4, 0, 1));
        due(0, x.step(1, 1, 3));
        due(0, x.time(3, 4, 0, 0));
        due(1, x.same(3, 2));
    }

    private void divisorsInOrder() {
        // Which of the first two are 0, whether what comes back is as of A alone (so that the third is 0), and which is told.
        int[][] rows = {{1, 0, 0, 1}, {1, 0, 1, 1}, {0, 1, 0, 2}, {0, 1, 1, 2}, {1, 1, 0, 1}, {1, 1, 1, 1}};
        for (int side = 0; side < 2; side++) {
            told(TERMS, "with which of the DIVISORS told, in order from 1 on)");
            start();
            for (int k = 0; k < rows.length; k++) {
                int tone = k % 4;
                int[] row = rows[k];
                due(0, x.set(A, tone, side, 1 - side, 1 - row[0], 0, 1));
                due(0, x.set(A, tone, 1 - side, side, 1 - row[1], 0, 1));
                due(0, x.set(W, tone, side, side, row[2] == 1 ? 1 : 2, 0, side == 0 ? 3 : 1));
                due(NO, x.takeOff(C, W, A, side));
                where(tone, row[3]);
                due(1, x.same(C, TWIN_OF_C));
                for (int undone = 0; undone < 3; undone++) {
                    due(1, x.undo());
                }
            }
            due(0, x.takeOff(C, W, A, side));
        }
    }

    private void tonesBeforeDivisors() {
        told(TERMS, "(the least such TONE is told by where(), with which of the DIVISORS told");
        start();
        due(0, x.set(A, 2, 0, 1, 0, 0, 1));
        due(NO, x.takeOff(C, W, A, 0));
        where(2, 1);
        due(NO, x.takeOff(C, W, A, 1));
        where(2, 2);
        due(0, x.set(W, 1, 0, 0, 1, 0, 12));
        due(NO, x.takeOff(C, W, A, 0));
        where(1, 3);
        due(NO, x.takeOff(C, W, A, 1));
        where(2, 2);
        due(0, x.set(A, 0, 1, 0, 0, 0, 1));
        due(NO, x.takeOff(C, W, A, 0));
        where(0, 2);
        due(NO, x.takeOff(C, W, A, 1));
        where(0, 1);
    }

    private void firstOfSeveral() {
        told(TERMS, "BAD: a number is none that is told, there is no such thing. NO, BIG. FULL. Of several the first;");
        for (int k = 0; k < 16; k++) {
            due(k, x.box(2 - k % 2));
        }
        each(BAD, ports -> x.box(ports), 0, 3, -1, LEAST, GREATEST);
        each(FULL, ports -> x.box(ports), 1, 2);
        // Join and taking off would be NO with these, and are BAD.
        entry(0, 1, 1, n(1));
        entry(2, 0, 0, n(1));
        due(NO, x.join(4, 0, 2));
        due(BAD, x.join(5, 0, 2));
        due(BAD, x.join(4, 0, 16));
        due(NO, x.takeOff(4, 0, 2, 0));
        due(BAD, x.takeOff(4, 0, 2, 2));
        due(BAD, x.takeOff(4, 0, 3, 1));
        due(1, x.undo());
        due(1, x.undo());
        due(NO, x.undo());
    }

    private void nothingChanges() {
        told(TERMS, "nothing changes then (but where(), by NO).");
        boxes(2, 1, 1);
        two(0, n(1, 0, 3), n(1000000), n(1000000), n(1));
        one(1, n(2, 1, 7));
        String before = state();
        due(BAD, x.box(3));
        due(BAD, x.set(0, 4, 0, 0, 5, 5, 5));
        due(BAD, x.set(0, 0, 0, 0, 1000001, 5, 5));
        due(BAD, x.all(0, 0, 0, 1, 1, 0));
        due(BAD, x.copy(0, 1));
        due(BAD, x.join(0, 0, 1));
        due(BAD, x.takeOff(0, 0, 0, 2));
        due(BAD, x.turn(0, 3));
        due(BAD, x.close(0, 0, 1));
        due(BAD, x.learn(0, 0, 0));
        due(BAD, x.correct(1, 1, 1));
        due(BAD, x.step(0, 10001, 1));
        due(BAD, x.time(1, 0, 2, 0));
        due(BAD, x.where(2));
        due(BAD, x.count(2));
        unchanged(before);
        due(1, x.undo());
        holdsAtAll(1, 0, 0, 0, 0, 1);
        due(1, x.undo());
        due(0, x.part(0, 2, 1, 1, 1));

        told(TERMS, "nothing changes then (but where(), by NO).");
        boxes(2, 1, 2);
        powers(0, n(1000000), 1);
        entry(0, 0, 0, n(1, 0, 3));
        entry(0, 1, 1, n(1, 0, 2));
        one(1, n(2, 1, 7));
        String same = state();
        due(BIG, x.join(0, 0, 0));
        due(BIG, x.close(1, 0, 1));
        unchanged(same);
        due(1, x.undo());
        holdsAtAll(1, 0, 0, 0, 0, 1);
        due(1, x.undo());
        holds(0, 1, 1, 1, 0, 0, 1);
        holds(0, 1, 0, 0, 1, 0, 3);

        told(TERMS, "nothing changes then (but where(), by NO).");
        boxes(2, 1);
        two(0, n(1, 0, 3), n(1), n(0), n(1));
        one(1, n(1));
        due(0, x.set(0, 3, 0, 1, 5, 5, 6));
        where(NONE, NONE);
        String known = state().replace("where -4 -4", "where 0 2");
        due(NO, x.close(1, 0, 1));
        where(0, 1);
        due(NO, x.takeOff(0, 0, 0, 0));
        unchanged(known);
        due(1, x.undo());
        holds(0, 3, 0, 1, 1, 0, 1);
    }
}
