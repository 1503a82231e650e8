/** Of each act: what it makes at the edges, boxes told twice, and arguments that are none. */
final class ActEdges extends Edges {
    private static final int[] A00 = n(1, 0, 3), A01 = n(1, 1, 2), A10 = n(1, -2, 2), A11 = n(-1, 0, 4);
    private static final int[] B00 = n(0, 1, 5), B01 = n(2, 0, 3), B10 = n(2, 1, 3), B11 = n(1, 2, 7);
    private static final int[] NOT_A_PORT = {-1, 2, 3, LEAST, GREATEST};

    void go() {
        allFourTones();
        set();
        all();
        copy();
        joined();
        join();
        takenOff();
        takeOff();
        turn();
        closed();
        close();
        learned();
        learn();
        correct();
        step();
        time();
        end();
    }

    private void a(int box) {
        two(box, A00, A01, A10, A11);
    }

    private void b(int box) {
        two(box, B00, B01, B10, B11);
    }

    private void allFourTones() {
        told(TERMS, "An act on BOXES makes what is told of one at all four TONES;");
        boxes(2, 2, 2);
        a(0);
        b(1);
        for (int tone = 0; tone < 4; tone++) {
            due(0, x.set(1, tone, 0, 0, tone, 1, 5));
        }
        due(0, x.join(2, 0, 1));
        holdsTwo(2, 0, n(470, 177, 1203), n(420, 380, 1203), n(770, -640, 1203), n(739, 5958, 25263));
        holdsTwo(2, 1, n(350, 57, 663), n(220, 200, 663), n(405, -335, 663), n(484, 3313, 13923));
        holdsTwo(2, 2, n(190, 9, 291), n(92, 84, 291), n(170, -140, 291), n(243, 1466, 6111));
        holdsTwo(2, 3, n(122, -3, 159), n(48, 44, 159), n(89, -73, 159), n(148, 807, 3339));
    }

    private void set() {
        told(3, "S i j of a BOX at a TONE becomes (p + q i) / r: 0.");
        boxes(2, 1);
        for (int k = 0; k < 16; k++) {
            int tone = k / 4;
            due(0, x.set(0, tone, k / 2 % 2, k % 2, k + 1, -k, 1));
            // Those told are as told, the next one is 0 still.
            due(k + 1, x.part(0, tone, k / 2 % 2, k % 2, 1));
            due(-k, x.part(0, tone, k / 2 % 2, k % 2, 3));
            int next = k + 1;
            due(0, next < 16 ? x.part(0, next / 4, next / 2 % 2, next % 2, 1) : 0);
        }
        for (int k = 0; k < 16; k++) {
            due(k + 1, x.part(0, k / 4, k / 2 % 2, k % 2, 1));
        }
        due(0, x.set(1, 3, 0, 0, -5, 0, 1));
        holds(1, 3, 0, 0, -5, 0, 1);
        holds(1, 2, 0, 0, 0, 0, 1);

        told(3, "BAD: also p, q not from -1000000 to 1000000, r not from 1 to 1000000.");
        boxes(2);
        due(0, x.set(0, 1, 0, 0, 1000000, 1000000, 1));
        holds(0, 1, 0, 0, 1000000, 1000000, 1);
        due(0, x.set(0, 1, 0, 0, -1000000, -1000000, 1));
        holds(0, 1, 0, 0, -1000000, -1000000, 1);
        due(0, x.set(0, 1, 0, 0, 1, 1, 1000000));
        holds(0, 1, 0, 0, 1, 1, 1000000);
        String before = state();
        each(BAD, p -> x.set(0, 1, 0, 0, p, 0, 1), 1000001, -1000001, 2000000, LEAST, GREATEST);
        each(BAD, q -> x.set(0, 1, 0, 0, 0, q, 1), 1000001, -1000001, 2000000, LEAST, GREATEST);
        each(BAD, r -> x.set(0, 1, 0, 0, 1, 0, r), 0, -1, -1000000, 1000001, LEAST, GREATEST);
        each(BAD, r -> x.set(0, 1, 0, 0, 0, 0, r), 0, -1, 1000001);
        unchanged(before);

        told(3, "BAD: also");
        boxes(2, 1);
        before = state();
        each(BAD, box -> x.set(box, 0, 0, 0, 1, 0, 1), -1, 2, 3, 15, 16, LEAST, GREATEST);
        each(BAD, tone -> x.set(0, tone, 0, 0, 1, 0, 1), -1, 4, LEAST, GREATEST);
        each(BAD, i -> x.set(0, 0, i, 0, 1, 0, 1), NOT_A_PORT);
        each(BAD, j -> x.set(0, 0, 0, j, 1, 0, 1), NOT_A_PORT);
        each(BAD, i -> x.set(1, 0, i, 0, 1, 0, 1), -1, 1, 2);
        each(BAD, j -> x.set(1, 0, 0, j, 1, 0, 1), -1, 1, 2);
        unchanged(before);
    }

    private void all() {
        told(4, "At all TONES that (as set()): 0.");
        boxes(2, 1);
        for (int k = 0; k < 4; k++) {
            due(0, x.set(0, k, 1, 0, 7, 7, 1));
            due(0, x.set(0, k, 0, 1, k, 7, 1));
        }
        due(0, x.all(0, 1, 0, -6, 9, 12));
        holdsAtAll(0, 1, 0, -2, 3, 4);
        for (int k = 0; k < 4; k++) {
            holds(0, k, 0, 1, k, 7, 1);
            holds(0, k, 0, 0, 0, 0, 1);
        }
        due(1, x.undo());
        holdsAtAll(0, 1, 0, 7, 7, 1);
        due(0, x.all(1, 0, 0, 1000000, -1000000, 1));
        holdsAtAll(1, 0, 0, 1000000, -1000000, 1);
        due(0, x.all(1, 0, 0, -1000000, 1000000, 999999));
        holdsAtAll(1, 0, 0, -1000000, 1000000, 999999);

        told(4, "BAD.");
        boxes(2, 1);
        String before = state();
        each(BAD, p -> x.all(0, 0, 0, p, 0, 1), 1000001, -1000001, LEAST, GREATEST);
        each(BAD, q -> x.all(0, 0, 0, 0, q, 1), 1000001, -1000001, LEAST, GREATEST);
        each(BAD, r -> x.all(0, 0, 0, 1, 0, r), 0, -1, 1000001, LEAST, GREATEST);
        each(BAD, box -> x.all(box, 0, 0, 1, 0, 1), -1, 2, 3, 16, LEAST, GREATEST);
        each(BAD, i -> x.all(0, i, 0, 1, 0, 1), NOT_A_PORT);
        each(BAD, j -> x.all(0, 0, j, 1, 0, 1), NOT_A_PORT);
        each(BAD, i -> x.all(1, i, 0, 1, 0, 1), -1, 1, 2);
        each(BAD, j -> x.all(1, 0, j, 1, 0, 1), -1, 1, 2);
        unchanged(before);
    }

    private void copy() {
        told(5, "BOX c becomes a: 0.");
        boxes(2, 2, 1, 1);
        a(0);
        due(0, x.set(0, 3, 1, 1, 9, 8, 7));
        due(0, x.copy(1, 0));
        due(1, x.same(0, 1));
        holdsTwo(1, 0, A00, A01, A10, A11);
        holds(1, 3, 1, 1, 9, 8, 7);
        due(0, x.copy(0, 0));
        due(1, x.same(0, 1));
        // Each is one of its own then.
        due(0, x.set(0, 0, 0, 0, 5, 0, 1));
        holds(1, 0, 0, 0, 1, 0, 3);
        due(0, x.set(1, 0, 0, 1, 6, 0, 1));
        holds(0, 0, 0, 1, 1, 1, 2);
        due(0, x.set(2, 2, 0, 0, 1, 2, 3));
        due(0, x.copy(3, 2));
        holds(3, 2, 0, 0, 1, 2, 3);
        due(0, x.copy(2, 2));
        due(1, x.same(3, 2));

        told(5, "BAD: also unlike PORTS.");
        boxes(2, 1);
        a(0);
        String before = state();
        due(BAD, x.copy(0, 1));
        due(BAD, x.copy(1, 0));
        each(BAD, box -> x.copy(box, 0), -1, 2, 16, LEAST, GREATEST);
        each(BAD, box -> x.copy(1, box), -1, 2, 16, LEAST, GREATEST);
        each(BAD, box -> x.copy(box, box), -1, 2, 16, LEAST, GREATEST);
        unchanged(before);
    }

    private void joined() {
        told(TERMS, "JOINED are a, b (two PORTS each; PORT 1 of a to PORT 0 of b): DIVISOR 1: e = 1 - A11 B00. "
            + "C00 = A00 + A01 A10 B00 / e; C01 = A01 B01 / e; C10 = A10 B10 / e; C11 = B11 + B01 B10 A11 / e.");
        boxes(2, 2, 2);
        a(0);
        b(1);
        due(0, x.join(2, 1, 0));
        holdsTwo(2, 1, n(665, 1329, 4545), n(63, 77, 202), n(301, -182, 404), n(-67, 165, 808));
        // Next to 0, but not 0.
        two(0, n(0), n(1), n(1), n(999999, 0, 1000000));
        two(1, n(1), n(1), n(1), n(0));
        due(0, x.join(2, 0, 1));
        holdsTwo(2, 1, n(1000000), n(1000000), n(1000000), n(999999));
        where(NONE, NONE);
        // -1 is as far off 0 as 1, and i times -i is 1.
        two(0, n(0), n(1), n(1), n(-1));
        due(0, x.join(2, 0, 1));
        holdsTwo(2, 2, n(1, 0, 2), n(1, 0, 2), n(1, 0, 2), n(-1, 0, 2));
        entry(0, 1, 1, n(0, 1, 1));
        entry(1, 0, 0, n(0, 1, 1));
        due(0, x.join(2, 0, 1));
        holdsTwo(2, 3, n(0, 1, 2), n(1, 0, 2), n(1, 0, 2), n(0, 1, 2));
        entry(1, 0, 0, n(0, -1, 1));
        due(NO, x.join(2, 0, 1));
        // Nothing joined with nothing.
        due(0, x.copy(0, 2));
        two(0, n(0), n(0), n(0), n(0));
        due(0, x.join(2, 0, 0));
        due(1, x.same(2, 0));
    }

    private void join() {
        told(6, "BOX c becomes a JOINED with b: 0.");
        int[][] same = {n(22, -3, 39), n(0, 6, 13), n(-9, -12, 13), n(-22, 3, 52)};
        boxes(2, 2, 2);
        a(0);
        b(1);
        due(0, x.join(2, 0, 0));
        holdsTwo(2, 3, same[0], same[1], same[2], same[3]);
        due(0, x.copy(2, 0));
        due(0, x.join(2, 2, 1));
        holdsTwo(2, 0, n(470, 177, 1203), n(420, 380, 1203), n(770, -640, 1203), n(739, 5958, 25263));
        due(0, x.copy(2, 0));
        due(0, x.join(2, 1, 2));
        holdsTwo(2, 0, n(665, 1329, 4545), n(63, 77, 202), n(301, -182, 404), n(-67, 165, 808));
        due(0, x.join(0, 0, 0));
        holdsTwo(0, 2, same[0], same[1], same[2], same[3]);
        holdsTwo(1, 2, B00, B01, B10, B11);

        told(6, "BAD: also one of them has not two PORTS (so in all acts: PORTS that are not as told).");
        boxes(2, 1, 2);
        a(0);
        String before = state();
        each(BAD, box -> x.join(box, 0, 2), 1, -1, 3, 16, LEAST, GREATEST);
        each(BAD, box -> x.join(2, box, 0), 1, -1, 3, 16, LEAST, GREATEST);
        each(BAD, box -> x.join(2, 0, box), 1, -1, 3, 16, LEAST, GREATEST);
        due(BAD, x.join(1, 1, 1));
        unchanged(before);

        told(6, "NO; BIG.");
        boxes(2);
        two(0, n(1), n(1), n(1), n(1));
        due(NO, x.join(0, 0, 0));
        powers(0, n(1000000), 2);
        due(BIG, x.join(0, 0, 0));
        holds(0, 0, 1, 0, E24, "0", "1");
    }

    private void takenOff() {
        told(TERMS, "TAKEN OFF in front is a of c: the b with which a JOINED is c: g = C00 - A00; "
            + "DIVISORS 1 A01, 2 A10, 3 f = A01 A10 + A11 g. B00 = g / f; "
            + "with e = 1 - A11 B00 (which is not 0 then) B01 = C01 e / A01; B10 = C10 e / A10; B11 = C11 - B01 B10 A11 / e.");
        boxes(2, 2, 2);
        a(0);
        two(1, n(2, 1, 5), n(1, 0, 7), n(0, 3, 4), n(-1, 1, 2));
        due(0, x.takeOff(2, 1, 0, 0));
        holdsTwo(2, 0, n(-2, 30, 113), n(120, -105, 791), n(-279, 117, 452), n(-3245, 3362, 6328));
        // e is next to 0, and 1.
        two(0, n(0), n(1, 0, 1000), n(1, 0, 1000), n(1));
        two(1, n(1), n(1, 0, 2), n(2, 0, 3), n(0));
        due(0, x.takeOff(2, 1, 0, 0));
        holdsTwo(2, 1, n(1000000, 0, 1000001), n(500, 0, 1000001), n(2000, 0, 3000003), n(-1000000, 0, 3000003));
        a(0);
        entry(0, 1, 1, n(0));
        two(1, n(2, 1, 5), n(1, 0, 7), n(0, 3, 4), n(-1, 1, 2));
        due(0, x.takeOff(2, 1, 0, 0));
        holdsTwo(2, 2, n(0, 4, 15), n(1, -1, 7), n(-6, 3, 10), n(-1, 1, 2));

        told(TERMS, "TAKEN OFF behind is b of c: both TURNED ABOUT, TAKEN OFF in front, TURNED ABOUT.");
        boxes(2, 2, 2, 2);
        a(0);
        two(1, n(2, 1, 5), n(1, 0, 7), n(0, 3, 4), n(-1, 1, 2));
        due(0, x.takeOff(2, 1, 0, 1));
        holdsTwo(2, 0, n(185, 67, 455), n(12, -18, 91), n(-81, 63, 130), n(-6, 9, 13));
        due(0, x.turn(0, 0));
        due(0, x.turn(1, 1));
        due(0, x.takeOff(3, 1, 0, 0));
        due(0, x.turn(3, 3));
        due(1, x.same(2, 3));
        two(0, n(1), n(1, 0, 1000), n(1, 0, 1000), n(0));
        two(1, n(0), n(1, 0, 2), n(2, 0, 3), n(1));
        due(0, x.takeOff(2, 1, 0, 1));
        holdsTwo(2, 3, n(-1000000, 0, 3000003), n(500, 0, 1000001), n(2000, 0, 3000003), n(1000000, 0, 1000001));
    }

    private void takeOff() {
        told(7, "BOX c becomes what is left of w when a is TAKEN OFF in front (side = 0), behind (1): 0.");
        boxes(2, 2, 2);
        a(0);
        b(1);
        due(0, x.join(2, 0, 1));
        // Into the whole, and into what is taken off.
        due(0, x.takeOff(2, 2, 0, 0));
        due(1, x.same(2, 1));
        due(0, x.join(2, 0, 1));
        due(0, x.takeOff(2, 2, 1, 1));
        due(1, x.same(2, 0));
        due(0, x.join(2, 0, 1));
        due(0, x.takeOff(0, 2, 0, 0));
        due(1, x.same(0, 1));
        a(0);
        due(0, x.takeOff(1, 2, 1, 1));
        due(1, x.same(1, 0));
        // All of it taken off leaves what lets through all.
        due(0, x.takeOff(2, 0, 0, 0));
        holdsTwo(2, 1, n(0), n(1), n(1), n(0));
        due(0, x.takeOff(2, 0, 0, 1));
        holdsTwo(2, 1, n(0), n(1), n(1), n(0));
        due(0, x.takeOff(0, 0, 0, 1));
        due(1, x.same(0, 2));

        told(7, "BAD;");
        boxes(2, 1, 2);
        a(0);
        a(2);
        String before = state();
        each(BAD, side -> x.takeOff(2, 2, 0, side), -1, 2, 3, LEAST, GREATEST);
        each(BAD, box -> x.takeOff(box, 0, 2, 0), 1, -1, 3, 16, LEAST, GREATEST);
        each(BAD, box -> x.takeOff(2, box, 0, 1), 1, -1, 3, 16, LEAST, GREATEST);
        each(BAD, box -> x.takeOff(2, 0, box, 0), 1, -1, 3, 16, LEAST, GREATEST);
        unchanged(before);

        told(7, "NO; BIG.");
        boxes(2, 2);
        powers(0, n(1000000), 2);
        due(NO, x.takeOff(1, 0, 1, 0));
        where(0, 1);
        two(1, n(0), n(1), n(1, 0, 2), n(0));
        due(BIG, x.takeOff(1, 0, 1, 0));
        holds(1, 3, 1, 0, 1, 0, 2);
    }

    private void turn() {
        told(TERMS, "TURNED ABOUT (two PORTS): PORTS 0 and 1 change places.");
        boxes(2, 2);
        two(0, n(1), n(2), n(3), n(4));
        due(0, x.set(0, 3, 0, 1, 5, 6, 7));
        due(0, x.turn(1, 0));
        holdsTwo(1, 0, n(4), n(3), n(2), n(1));
        holdsTwo(1, 3, n(4), n(3), n(5, 6, 7), n(1));

        told(8, "BOX c becomes a TURNED ABOUT: 0.");
        boxes(2, 2);
        a(0);
        due(0, x.copy(1, 0));
        due(0, x.turn(0, 0));
        holdsTwo(0, 2, A11, A10, A01, A00);
        due(0, x.same(0, 1));
        due(0, x.turn(0, 0));
        due(1, x.same(0, 1));

        told(8, "BAD.");
        boxes(2, 1);
        a(0);
        String before = state();
        each(BAD, box -> x.turn(box, 0), 1, -1, 2, 16, LEAST, GREATEST);
        each(BAD, box -> x.turn(0, box), 1, -1, 2, 16, LEAST, GREATEST);
        due(BAD, x.turn(1, 1));
        unchanged(before);
    }

    private void closed() {
        told(TERMS, "CLOSED is a (two PORTS) by k (one): DIVISOR 1: 1 - A11 K00. A00 + A01 A10 K00 / that.");
        boxes(2, 1, 1);
        a(0);
        for (int tone = 0; tone < 4; tone++) {
            due(0, x.set(1, tone, 0, 0, tone, 3, 5));
        }
        due(0, x.close(2, 0, 1));
        holds(2, 0, 0, 0, 670, 513, 1227);
        holds(2, 1, 0, 0, 2, 1, 3);
        holds(2, 2, 0, 0, 1150, 381, 1479);
        holds(2, 3, 0, 0, 710, 153, 807);
        // By what sends nothing back, and of what lets nothing through.
        one(1, n(0));
        due(0, x.close(2, 0, 1));
        holdsAtAll(2, 0, 0, 1, 0, 3);
        one(1, n(-4));
        due(NO, x.close(2, 0, 1));
        entry(0, 0, 1, n(0));
        due(NO, x.close(2, 0, 1));
        one(1, n(-399999, 0, 100000));
        due(0, x.close(2, 0, 1));
        holdsAtAll(2, 0, 0, 1, 0, 3);
        entry(0, 0, 1, n(1));
        entry(0, 1, 0, n(1));
        due(0, x.close(2, 0, 1));
        // 1 / 3 - 4 times 399999
        holdsAtAll(2, 0, 0, -4799987, 0, 3);
    }

    private void close() {
        told(9, "BOX c (one PORT) becomes a CLOSED by k: 0.");
        boxes(2, 1, 1);
        a(0);
        one(1, n(2, 3, 5));
        due(0, x.copy(2, 1));
        due(0, x.close(1, 0, 1));
        holds(1, 3, 0, 0, 1150, 381, 1479);
        holds(2, 3, 0, 0, 2, 3, 5);

        told(9, "BAD;");
        boxes(2, 1, 1, 2);
        String before = state();
        each(BAD, box -> x.close(box, 0, 1), 0, 3, -1, 4, 16, LEAST, GREATEST);
        each(BAD, box -> x.close(1, box, 2), 1, 2, -1, 4, 16, LEAST, GREATEST);
        each(BAD, box -> x.close(1, 0, box), 0, 3, -1, 4, 16, LEAST, GREATEST);
        unchanged(before);

        told(9, "NO; BIG.");
        boxes(2, 1, 1);
        two(0, n(1), n(1), n(1), n(1));
        one(1, n(1));
        due(NO, x.close(2, 0, 1));
        where(0, 1);
        powers(0, n(1000000), 2);
        due(BIG, x.close(2, 0, 1));
        holdsAtAll(2, 0, 0, 0, 0, 1);
    }

    private void learned() {
        told(TERMS, "LEARNED is an instrument from three known ones k, each with what was read, m (one PORT each): "
            + "the BOX with S01 1 which CLOSED by each k is its m: u, v, w by m = u + v k + w m k, solved: "
            + "S00 u, S11 w, S10 v + u w. With x = k1 - k0, y = k2 - k0, x' = m1 k1 - m0 k0, y' = m2 k2 - m0 k0: "
            + "DIVISOR 1 is x y' - y x'; by it w is x (m2 - m0) - y (m1 - m0), v is (m1 - m0) y' - (m2 - m0) x'; "
            + "u is m0 - v k0 - w m0 k0.");
        boxes(1, 1, 1, 1, 1, 1, 2, 1);
        one(0, n(1, 0, 2));
        one(1, n(0, 1, 1));
        one(2, n(-1, 1, 3));
        one(3, n(2));
        one(4, n(1, 1, 1));
        one(5, n(0, -1, 5));
        due(0, x.learn(6, 0, 3));
        holdsTwo(6, 0, n(369, -207, 260), n(1), n(25699, 29143, 13520), n(-47, 14, 52));
        for (int k = 0; k < 3; k++) {
            due(0, x.close(7, 6, k));
            due(1, x.same(7, 3 + k));
        }
        // Two known ones alike, but not read alike: then v + u w is 0, and what is read tells nothing of the third.
        due(0, x.set(1, 2, 0, 0, 1, 0, 2));
        due(0, x.learn(6, 0, 3));
        holds(6, 1, 1, 1, -47, 14, 52);
        holds(6, 2, 0, 1, 1, 0, 1);
        holds(6, 2, 1, 1, 2, 0, 1);
        holds(6, 2, 1, 0, 0, 0, 1);
        holds(6, 2, 0, 0, 0, -1, 5);
        where(NONE, NONE);
        due(0, x.set(4, 2, 0, 0, 2, 0, 1));
        due(NO, x.learn(6, 0, 3));
        where(2, 1);
        // All read alike; two of them read as nothing; all known ones alike.
        one(1, n(0, 1, 1));
        for (int m = 3; m < 6; m++) {
            one(m, n(5, 0, 7));
        }
        due(NO, x.learn(6, 0, 3));
        where(0, 1);
        one(4, n(0));
        one(5, n(0));
        due(0, x.learn(6, 0, 3));
        // What is solved stands, though closed by the first known one it divides by 0.
        holdsTwo(6, 3, n(0), n(1), n(0), n(2));
        due(NO, x.close(7, 6, 0));
        one(1, n(1, 0, 2));
        one(2, n(1, 0, 2));
        due(NO, x.learn(6, 0, 3));
        where(0, 1);
    }

    private void learn() {
        told(10, "BOX c becomes the instrument LEARNED of the known ones k, k + 1, k + 2 "
            + "and what was read of these, m, m + 1, m + 2: 0.");
        boxes(1, 1, 1, 1, 2, 2, 2, 2, 2, 2, 2, 2, 2, 1, 1, 1);
        for (int k = 0; k < 4; k++) {
            one(k, n(k));
        }
        one(13, n(1));
        one(14, n(2));
        one(15, n(4));
        // The same three, some of the same, the last three of sixteen.
        due(0, x.learn(4, 0, 0));
        holdsTwo(4, 0, n(0), n(1), n(1), n(0));
        due(0, x.learn(5, 0, 1));
        holdsTwo(5, 1, n(1), n(1), n(1), n(0));
        due(0, x.learn(6, 1, 0));
        holdsTwo(6, 2, n(-1), n(1), n(1), n(0));
        due(0, x.learn(7, 0, 13));
        // 1 2 4 of 0 1 2: 1 + v + 2 w is 2, 1 + 2 v + 8 w is 4.
        holdsTwo(7, 3, n(1), n(1), n(3, 0, 4), n(1, 0, 4));
        due(0, x.learn(8, 13, 0));
        // 0 1 2 of 1 2 4: u + v is 0, u + 2 v + 2 w is 1, u + 4 v + 8 w is 2.
        holdsTwo(8, 0, n(-2), n(1), n(3), n(-1, 0, 2));

        told(10, "BAD;");
        boxes(1, 1, 1, 2, 1, 1, 1, 2, 1, 1);
        each(BAD, c -> x.learn(c, 0, 4), 0, 1, 4, 6, 9, -1, 10, 16, LEAST, GREATEST);
        each(BAD, k -> x.learn(3, k, 4), 1, 2, 3, 5, 6, 7, 8, 9, 10, 14, 15, 16, -1, -2, -3, LEAST, GREATEST, GREATEST - 1, GREATEST - 2);
        each(BAD, m -> x.learn(3, 0, m), 1, 2, 3, 5, 6, 7, 8, 9, 10, 14, 15, 16, -1, -2, -3, LEAST, GREATEST, GREATEST - 1, GREATEST - 2);
        where(NONE, NONE);
        due(0, x.count(1));
        due(NO, x.learn(3, 0, 4));

        told(10, "NO; BIG.");
        boxes(1, 1, 1, 1, 1, 1, 2);
        one(0, n(1));
        one(1, n(1, 0, 999999));
        one(2, n(1, 0, 999998));
        one(3, n(1));
        one(4, n(1, 1, 999997));
        one(5, n(1, 0, 999995));
        due(BIG, x.learn(6, 0, 3));
        holdsTwo(6, 0, n(0), n(0), n(0), n(0));
        where(NONE, NONE);
        due(0, x.copy(1, 0));
        due(0, x.copy(4, 3));
        due(NO, x.learn(6, 0, 3));
        where(0, 1);
    }

    private void correct() {
        told(TERMS, "UNDONE is what is read, m, by a BOX e: g = M - E00; DIVISOR 1: E01 E10 + E11 g. g / that.");
        boxes(2, 1, 1, 1);
        a(0);
        for (int tone = 0; tone < 4; tone++) {
            due(0, x.set(1, tone, 0, 0, 3, tone, 4));
        }
        due(0, x.correct(2, 0, 1));
        holds(2, 0, 0, 0, 124, 48, 221);
        holds(2, 1, 0, 0, 220, 336, 593);
        holds(2, 2, 0, 0, 188, 1104, 1285);
        holds(2, 3, 0, 0, -68, 768, 701);
        due(0, x.close(3, 0, 2));
        due(1, x.same(3, 1));
        // What is read on the other side of 0 than what the instrument sends back itself.
        two(0, n(-1, 1, 3), n(1), n(1), n(0));
        one(1, n(2, -1, 3));
        due(0, x.correct(2, 0, 1));
        holdsAtAll(2, 0, 0, 3, -2, 3);
        a(0);
        // What is read of what sends nothing back; and a 0 with E01 0 unless E11 helps.
        one(1, A00);
        due(0, x.correct(2, 0, 1));
        holdsAtAll(2, 0, 0, 0, 0, 1);
        two(0, n(1), n(0), n(5), n(7));
        one(1, n(3));
        due(0, x.correct(2, 0, 1));
        holdsAtAll(2, 0, 0, 1, 0, 7);
        one(1, n(1));
        due(NO, x.correct(2, 0, 1));
        where(0, 1);

        told(11, "BOX c becomes m UNDONE by e: 0.");
        boxes(2, 1);
        a(0);
        one(1, n(3, -1, 4));
        due(0, x.correct(1, 0, 1));
        holdsAtAll(1, 0, 0, 364, -96, 521);

        told(11, "BAD;");
        boxes(2, 1, 1, 2);
        a(0);
        String before = state();
        each(BAD, box -> x.correct(box, 0, 1), 0, 3, -1, 4, 16, LEAST, GREATEST);
        each(BAD, box -> x.correct(1, box, 2), 1, 2, -1, 4, 16, LEAST, GREATEST);
        each(BAD, box -> x.correct(1, 0, box), 0, 3, -1, 4, 16, LEAST, GREATEST);
        unchanged(before);

        told(11, "NO; BIG.");
        boxes(2, 1, 1);
        one(1, n(1));
        due(NO, x.correct(2, 0, 1));
        where(0, 1);
        powers(0, n(1, 0, 1000000), 1);
        due(0, x.correct(2, 0, 1));
        holdsAtAll(2, 0, 0, E24, "0", "1");
        one(1, n(0, 2, 1));
        due(BIG, x.correct(2, 0, 1));
        holdsAtAll(2, 0, 0, E24, "0", "1");
    }

    private void step() {
        told(TERMS, "A STEP from a wave stuff n to d (wholes above 0): h = (n - d) / (n + d): S00 h, S11 - h, S10 1 + h, S01 1 - h.");
        boxes(2);
        for (int tone = 0; tone < 4; tone++) {
            due(0, x.set(0, tone, 1, 0, tone, 5, 7));
        }
        due(0, x.step(0, 3, 5));
        for (int tone = 0; tone < 4; tone++) {
            holdsTwo(0, tone, n(-1, 0, 4), n(5, 0, 4), n(3, 0, 4), n(1, 0, 4));
        }
        due(0, x.step(0, 6, 3));
        holdsTwo(0, 2, n(1, 0, 3), n(2, 0, 3), n(4, 0, 3), n(-1, 0, 3));
        due(0, x.step(0, 9, 9));
        holdsTwo(0, 3, n(0), n(1), n(1), n(0));

        told(12, "BOX c becomes a STEP (n, d from 1 to 10000): 0.");
        boxes(2);
        due(0, x.step(0, 1, 1));
        holdsTwo(0, 0, n(0), n(1), n(1), n(0));
        due(0, x.step(0, 10000, 10000));
        holdsTwo(0, 0, n(0), n(1), n(1), n(0));
        due(0, x.step(0, 10000, 1));
        holdsTwo(0, 0, n(9999, 0, 10001), n(2, 0, 10001), n(20000, 0, 10001), n(-9999, 0, 10001));
        due(0, x.step(0, 1, 10000));
        holdsTwo(0, 3, n(-9999, 0, 10001), n(20000, 0, 10001), n(2, 0, 10001), n(9999, 0, 10001));

        told(12, "BAD.");
        boxes(2, 1);
        String before = state();
        each(BAD, n -> x.step(0, n, 5), 0, -1, 10001, -5, LEAST, GREATEST);
        each(BAD, d -> x.step(0, 5, d), 0, -1, 10001, -5, LEAST, GREATEST);
        each(BAD, box -> x.step(box, 1, 1), 1, -1, 2, 16, LEAST, GREATEST);
        unchanged(before);
    }

    private void time() {
        told(TERMS, "IN TIME: of S i j at the four TONES X0 to X3: at n (0 to 3): (X0 + X1 i^n + X2 i^(2n) + X3 i^(3n)) / 4.");
        boxes(2, 1);
        due(0, x.set(0, 0, 1, 0, 1, 2, 3));
        due(0, x.set(0, 1, 1, 0, 0, 5, 1));
        due(0, x.set(0, 2, 1, 0, -7, 1, 2));
        due(0, x.set(0, 3, 1, 0, 2, 0, 5));
        due(0, x.time(1, 0, 1, 0));
        holds(1, 0, 0, 0, -83, 185, 120);
        holds(1, 1, 0, 0, -35, -7, 120);
        holds(1, 2, 0, 0, -107, -115, 120);
        holds(1, 3, 0, 0, 265, 17, 120);
        // Each tone alone goes round by itself: i^(2n) and i^(3n) come back to 1.
        int[][] p = {{1, 1, 1, 1}, {1, 0, -1, 0}, {1, -1, 1, -1}, {1, 0, -1, 0}};
        int[][] q = {{0, 0, 0, 0}, {0, 1, 0, -1}, {0, 0, 0, 0}, {0, -1, 0, 1}};
        for (int tone = 0; tone < 4; tone++) {
            entry(0, 1, 1, n(0));
            due(0, x.set(0, tone, 1, 1, 4, 0, 1));
            due(0, x.time(1, 0, 1, 1));
            for (int at = 0; at < 4; at++) {
                holds(1, at, 0, 0, p[tone][at], q[tone][at], 1);
            }
        }

        told(13, "BOX c (one PORT) becomes what S i j of a is IN TIME, TONE n being time n: 0.");
        boxes(2, 1, 1);
        two(0, n(4), n(8), n(12), n(16));
        for (int k = 0; k < 4; k++) {
            due(0, x.time(1, 0, k / 2, k % 2));
            holds(1, 0, 0, 0, 4 * k + 4, 0, 1);
            holds(1, 1, 0, 0, 0, 0, 1);
            holds(1, 2, 0, 0, 0, 0, 1);
            holds(1, 3, 0, 0, 0, 0, 1);
        }
        // Of itself, twice: 16 at time 0 alone is 4 each time.
        due(0, x.time(1, 1, 0, 0));
        holdsAtAll(1, 0, 0, 4, 0, 1);
        due(0, x.time(2, 1, 0, 0));
        holds(2, 0, 0, 0, 4, 0, 1);

        told(13, "BAD;");
        boxes(2, 1);
        a(0);
        String before = state();
        each(BAD, box -> x.time(box, 1, 0, 0), 0, -1, 2, 16, LEAST, GREATEST);
        each(BAD, box -> x.time(1, box, 0, 0), -1, 2, 16, LEAST, GREATEST);
        each(BAD, i -> x.time(1, 0, i, 0), NOT_A_PORT);
        each(BAD, j -> x.time(1, 0, 0, j), NOT_A_PORT);
        each(BAD, i -> x.time(1, 1, i, 0), -1, 1, 2);
        each(BAD, j -> x.time(1, 1, 0, j), -1, 1, 2);
        unchanged(before);
    }
}
