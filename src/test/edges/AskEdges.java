/** Of what is asked, of sizes, and of acts taken back. */
final class AskEdges extends Edges {
    private static final int LIKE = 1, PASSIVE = 2, LOSSLESS = 3;

    void go() {
        newObject();
        box();
        size();
        onePort();
        passive();
        lossless();
        likeBothWays();
        sixteenActs();
        undoOfEachAct();
        undo();
        where();
        part();
        about();
        is();
        against();
        worst();
        same();
        count();
        end();
    }

    private void newObject() {
        told(1, "No BOXES.");
        due(0, x.count(0));
        due(0, x.count(1));
        where(NONE, NONE);
        due(NO, x.undo());
        each(BAD, box -> x.about(box, 0), 0, 1, 15, -1);
        due(BAD, x.same(0, 0));
        due(BAD, x.set(0, 0, 0, 0, 1, 0, 1));
        due(0, x.box(2));
        Bench other = x;
        x = new Bench();
        due(0, x.count(0));
        due(1, other.count(0));
        due(0, x.box(1));
        due(0, other.set(0, 0, 0, 0, 5, 0, 1));
        holds(0, 0, 0, 0, 0, 0, 1);
    }

    private void box() {
        told(2, "A BOX with one PORT or two: its number.");
        due(0, x.box(1));
        due(1, x.box(2));
        due(2, x.box(1));
        due(1, x.about(0, 0));
        due(2, x.about(1, 0));
        due(1, x.about(2, 0));
        due(3, x.count(0));

        told(2, "BAD; FULL.");
        each(BAD, ports -> x.box(ports), 0, 3, -1, -2, LEAST, GREATEST);
        due(0, x.count(0));
        for (int k = 0; k < 15; k++) {
            due(k, x.box(2));
        }
        due(BAD, x.box(3));
        due(15, x.box(1));
        String before = "" + x.count(0) + x.count(1) + x.about(15, 0);
        each(FULL, ports -> x.box(ports), 1, 2);
        each(BAD, ports -> x.box(ports), 0, 3, -1, -2, LEAST, GREATEST);
        due(0, before.compareTo("" + x.count(0) + x.count(1) + x.about(15, 0)));
        due(0, x.set(0, 0, 1, 1, 4, 0, 1));
        due(1, x.undo());
        due(FULL, x.box(1));
    }

    private void size() {
        told(TERMS, "SIZE of a NUMBER: the square of how far it is off 0.");
        boxes(1, 1);
        int[][] five = {{5, 0, 1}, {-5, 0, 1}, {0, 5, 1}, {0, -5, 1}, {3, 4, 1}, {-4, -3, 1}, {24, -7, 5}, {1000000, 0, 200000}};
        for (int[] s : five) {
            for (int[] t : five) {
                one(0, s);
                one(1, t);
                due(0, x.against(2, 0, 0, 0, 1, 0, 0));
            }
        }
        // p and q both count, and by their squares: 6 + 1 is as much as 3 + 4, and yet more.
        one(0, n(6, 1, 1));
        due(1, x.against(2, 0, 0, 0, 1, 0, 0));
        one(0, n(3, 3, 1));
        due(-1, x.against(2, 0, 0, 0, 1, 0, 0));
    }

    private void isAt(int box, int like, int passive, int lossless) {
        for (int tone = 0; tone < 4; tone += 3) {
            due(like, x.is(box, tone, LIKE));
            due(passive, x.is(box, tone, PASSIVE));
            due(lossless, x.is(box, tone, LOSSLESS));
        }
    }

    private void onePort() {
        told(TERMS, "A BOX at a TONE is PASSIVE, if no waves bring out more than they bring in: with one PORT SIZE at most 1;");
        boxes(1, 2, 1);
        isAt(0, 1, 1, 0);
        int[][] justOne = {{1, 0, 1}, {-1, 0, 1}, {0, 1, 1}, {0, -1, 1}, {3, 4, 5}, {-5, 12, 13}};
        for (int[] s : justOne) {
            one(0, s);
            isAt(0, 1, 1, 1);
        }
        one(0, n(1000000, 1, 1000000));
        isAt(0, 1, 0, 0);
        one(0, n(-1000000, 0, 999999));
        isAt(0, 1, 0, 0);
        one(0, n(999999, 1, 1000000));
        isAt(0, 1, 1, 0);
        one(0, n(-999999, 0, 1000000));
        isAt(0, 1, 1, 0);
        // Off 1 by 1 by 10 to the 24: less, as much on i's side, and 1 by 10 to the 12 more.
        powers(1, n(1, 0, 1000000), 1);
        entry(1, 0, 0, n(1));
        one(0, n(-1));
        due(0, x.close(2, 1, 0));
        holds(2, 0, 0, 0, E24_LESS_1, "0", E24);
        isAt(2, 1, 1, 0);
        one(0, n(0, 1, 1));
        due(0, x.close(2, 1, 0));
        holds(2, 0, 0, 0, E24, "1", E24);
        isAt(2, 1, 0, 0);
        entry(1, 1, 0, n(1));
        one(0, n(1));
        due(0, x.close(2, 1, 0));
        isAt(2, 1, 0, 0);
    }

    private void passive() {
        told(TERMS, "with two: 1 less SIZES of S00, S10 is 0 or above, so 1 less those of S01, S11,");
        boxes(2);
        isAt(0, 1, 1, 0);
        int[] nothing = n(0);
        int[] little = n(1, 0, 1000000);
        two(0, n(3, 0, 5), nothing, n(0, 4, 5), nothing);
        isAt(0, 0, 1, 0);
        entry(0, 0, 0, n(3, 0, 4));
        isAt(0, 0, 0, 0);
        two(0, n(1), nothing, little, nothing);
        isAt(0, 0, 0, 0);
        two(0, little, nothing, n(1), nothing);
        isAt(0, 0, 0, 0);
        two(0, nothing, n(3, 0, 5), nothing, n(0, 4, 5));
        isAt(0, 0, 1, 0);
        two(0, nothing, n(1), nothing, little);
        isAt(0, 0, 0, 0);
        two(0, nothing, little, nothing, n(1));
        isAt(0, 0, 0, 0);
        // Both are below 0, so that their product is above; or one is, and the other 0.
        two(0, n(2), nothing, nothing, n(2));
        isAt(0, 1, 0, 0);
        two(0, n(1), nothing, nothing, n(2));
        isAt(0, 1, 0, 0);
        two(0, n(2), nothing, nothing, n(1));
        isAt(0, 1, 0, 0);

        told(TERMS, "and the product of these two no less than SIZE of (S00 mirrored) S01 + (S10 mirrored) S11 "
            + "(mirrored: q with the other sign).");
        boxes(2);
        int[] half = n(1, 0, 2);
        two(0, half, half, half, half);
        isAt(0, 1, 1, 0);
        entry(0, 1, 1, n(500001, 0, 1000000));
        isAt(0, 1, 0, 0);
        entry(0, 1, 1, n(499999, 0, 1000000));
        isAt(0, 1, 1, 0);
        // Just as great, with unlike r: what comes in one way alone comes out, as one wave.
        int[][][] oneWave = {{{3, 0, 13}, {36, 0, 65}, {4, 0, 13}, {48, 0, 65}},
            {{1, -2, 5}, {2, 0, 5}, {8, 4, 15}, {0, 8, 15}}, {{24, 0, 85}, {32, 0, 85}, {9, 0, 17}, {12, 0, 17}}};
        for (int[][] s : oneWave) {
            for (int k = 0; k < 4; k++) {
                two(0, s[0], s[1], s[2], s[3]);
                isAt(0, 0, 1, 0);
                // Each a little more.
                entry(0, k / 2, k % 2, n(s[k][0] * 1001, s[k][1] * 1001, s[k][2] * 1000));
                isAt(0, 0, 0, 0);
            }
        }
        // Mirrored the two parts cancel, and else they do not; and the other way about.
        two(0, n(3, 0, 5), n(0, 4, 5), n(0, 4, 5), n(3, 0, 5));
        isAt(0, 1, 1, 1);
        two(0, n(0, 3, 5), n(4, 0, 5), n(4, 0, 5), n(0, 3, 5));
        isAt(0, 1, 1, 1);
        two(0, n(0, 3, 5), n(4, 0, 5), n(4, 0, 5), n(0, -3, 5));
        isAt(0, 1, 0, 0);
        two(0, n(0, 3, 5), n(0, 4, 5), n(4, 0, 5), n(-3, 0, 5));
        isAt(0, 0, 1, 1);
        two(0, n(0, 1, 2), n(0, 1, 2), n(1, 0, 2), n(1, 0, 2));
        isAt(0, 0, 1, 0);
        entry(0, 0, 0, n(0, 500001, 1000000));
        isAt(0, 0, 0, 0);
    }

    private void lossless() {
        told(TERMS, "LOSSLESS: these all are 0.");
        boxes(2, 1);
        // What was told of one box is nothing to the next.
        one(1, n(1));
        two(0, n(3, 0, 5), n(4, 0, 5), n(4, 0, 5), n(3, 0, 5));
        isAt(0, 1, 0, 0);
        isAt(1, 1, 1, 1);
        two(0, n(0), n(0), n(0), n(1));
        isAt(0, 1, 1, 0);
        isAt(1, 1, 1, 1);
        one(1, n(0));
        // One of the three alone is not 0.
        two(0, n(1), n(0), n(0), n(1));
        isAt(0, 1, 1, 1);
        entry(0, 0, 0, n(999999, 0, 1000000));
        isAt(0, 1, 1, 0);
        two(0, n(1), n(0), n(0), n(999999, 0, 1000000));
        isAt(0, 1, 1, 0);
        two(0, n(3, 0, 5), n(4, 0, 5), n(4, 0, 5), n(3, 0, 5));
        isAt(0, 1, 0, 0);
        entry(0, 1, 1, n(-3, 0, 5));
        isAt(0, 1, 1, 1);
        two(0, n(0), n(0, -1, 1), n(5, 12, 13), n(0));
        isAt(0, 0, 1, 1);
        isAt(1, 1, 1, 0);
        one(1, n(4, -3, 5));
        isAt(1, 1, 1, 1);
    }

    private void likeBothWays() {
        told(TERMS, "LIKE BOTH WAYS: S01 is S10.");
        boxes(2);
        isAt(0, 1, 1, 0);
        int[][] there = {{1, 0, 1}, {1, 1, 2}, {0, 1, 1}, {2, 4, 6}, {1, 0, 2}, {1, 1, 3}};
        int[][] back = {{-1, 0, 1}, {1, -1, 2}, {1, 0, 1}, {1, 2, 3}, {1, 0, 3}, {1, 2, 3}};
        for (int k = 0; k < there.length; k++) {
            entry(0, 0, 1, there[k]);
            entry(0, 1, 0, back[k]);
            due(k == 3 ? 1 : 0, x.is(0, 3, LIKE));
            entry(0, 1, 0, there[k]);
            due(1, x.is(0, 3, LIKE));
        }
        due(0, x.set(0, 1, 0, 1, 5, 0, 1));
        due(0, x.is(0, 1, LIKE));
        due(1, x.is(0, 0, LIKE));
        // Beyond 12 digits, and only in the last one.
        powers(0, n(999983, 0, 999979), 2);
        due(1, x.is(0, 0, LIKE));
        powers(0, n(999999), 1);
        entry(0, 0, 1, n(999998));
        due(0, x.is(0, 2, LIKE));
    }

    private void sixteenActs() {
        told(TERMS, "16 acts are kept, and taken back (box() is none).");
        boxes(1);
        for (int k = 1; k <= 17; k++) {
            due(0, x.set(0, k % 4, 0, 0, k, 0, 1));
            due(Math.min(k, 16), x.count(1));
        }
        for (int k = 17; k > 1; k--) {
            due(k, x.part(0, k % 4, 0, 0, 1));
            due(1, x.undo());
            due(k > 4 ? k - 4 : 0, x.part(0, k % 4, 0, 0, 1));
            due(k - 2, x.count(1));
        }
        due(NO, x.undo());
        holds(0, 1, 0, 0, 1, 0, 1);

        told(TERMS, "16 acts are kept, and taken back (box() is none).");
        boxes(1);
        for (int k = 1; k <= 16; k++) {
            due(0, x.set(0, 0, 0, 0, k, 0, 1));
        }
        for (int k = 16; k > 0; k--) {
            due(k, x.part(0, 0, 0, 0, 1));
            due(1, x.undo());
        }
        due(NO, x.undo());
        holds(0, 0, 0, 0, 0, 0, 1);

        told(TERMS, "16 acts are kept, and taken back (box() is none).");
        boxes(1);
        // Taken back and begun anew, round the end of what is kept: 20, back 6, 9 more, back 16.
        for (int k = 1; k <= 20; k++) {
            due(0, x.set(0, 0, 0, 0, k, 0, 1));
        }
        for (int k = 0; k < 6; k++) {
            due(1, x.undo());
        }
        due(10, x.count(1));
        due(14, x.part(0, 0, 0, 0, 1));
        for (int k = 101; k <= 109; k++) {
            due(0, x.set(0, 0, 0, 0, k, 0, 1));
        }
        due(16, x.count(1));
        for (int k = 108; k > 100; k--) {
            due(1, x.undo());
            due(k, x.part(0, 0, 0, 0, 1));
        }
        for (int k = 14; k > 6; k--) {
            due(1, x.undo());
            due(k, x.part(0, 0, 0, 0, 1));
        }
        due(NO, x.undo());
        due(7, x.part(0, 0, 0, 0, 1));

        told(TERMS, "(box() is none).");
        boxes(1);
        due(0, x.count(1));
        due(NO, x.undo());
        due(0, x.set(0, 0, 0, 0, 5, 0, 1));
        due(1, x.box(2));
        due(1, x.count(1));
        due(1, x.undo());
        holds(0, 0, 0, 0, 0, 0, 1);
        due(2, x.count(0));
        due(2, x.about(1, 0));
        due(NO, x.undo());
        due(2, x.box(1));
    }

    private void undoOfEachAct() {
        Call[] acts = {
            none -> x.set(0, 2, 1, 0, 5, 6, 7), none -> x.all(0, 1, 1, 5, 6, 7), none -> x.copy(0, 1), none -> x.join(0, 0, 1),
            none -> x.takeOff(0, 1, 0, 0), none -> x.takeOff(0, 1, 0, 1), none -> x.turn(0, 0), none -> x.close(3, 0, 2),
            none -> x.learn(0, 2, 3), none -> x.correct(4, 1, 4), none -> x.step(0, 5, 9), none -> x.time(3, 0, 1, 0),
            none -> x.copy(2, 3), none -> x.set(5, 0, 0, 0, 1, 0, 1), none -> x.copy(1, 1)};
        for (Call act : acts) {
            told(14, "The latest act is taken back: 1.");
            boxes(2, 2, 1, 1, 1, 1);
            two(0, n(1, 0, 3), n(1, 1, 2), n(1, 0, 5), n(1, 0, 7));
            two(1, n(2, 0, 3), n(1, 1, 3), n(1, 0, 4), n(2, 0, 7));
            due(0, x.set(0, 3, 1, 0, 2, 3, 4));
            one(2, n(1));
            one(3, n(2, 0, 3));
            one(4, n(1, 4, 9));
            one(5, n(7, 1, 9));
            due(1, x.undo());
            String before = state();
            due(0, act.at(0));
            due(14, x.count(1) + 1);
            due(1, x.undo());
            unchanged(before);
        }
    }

    private void undo() {
        told(14, "The latest act is taken back: 1.");
        boxes(1, 2);
        due(0, x.set(0, 0, 0, 0, 1, 0, 1));
        due(0, x.set(1, 0, 0, 1, 2, 0, 1));
        due(0, x.set(0, 0, 0, 0, 3, 0, 1));
        // What is refused is not taken back, nor is what is asked.
        due(BAD, x.set(0, 0, 0, 0, 3, 0, 0));
        due(0, x.is(1, 0, LIKE));
        due(1, x.undo());
        due(1, x.part(0, 0, 0, 0, 1));
        due(2, x.part(1, 0, 0, 1, 1));
        due(1, x.undo());
        due(0, x.part(1, 0, 0, 1, 1));
        due(1, x.part(0, 0, 0, 0, 1));
        // It is no act itself.
        due(1, x.count(1));
        due(1, x.undo());
        holds(0, 0, 0, 0, 0, 0, 1);

        told(14, "NO: there is none.");
        due(NO, x.undo());
        boxes(1);
        due(NO, x.undo());
        due(0, x.set(0, 0, 0, 0, 1, 0, 1));
        due(1, x.undo());
        due(NO, x.undo());
        due(NO, x.undo());
        due(0, x.count(1));
        where(NONE, NONE);
        due(0, x.set(0, 0, 0, 0, 2, 0, 1));
        due(1, x.count(1));
        due(1, x.undo());
    }

    private void where() {
        told(15, "Of the latest act that was NO: 0 the TONE, 1 which DIVISOR;");
        boxes(2, 1, 2);
        two(0, n(0), n(1), n(1), n(1));
        due(0, x.set(1, 2, 0, 0, 1, 0, 1));
        due(NO, x.close(1, 0, 1));
        where(2, 1);
        due(0, x.set(0, 1, 1, 0, 0, 0, 1));
        where(2, 1);
        due(NO, x.takeOff(2, 2, 0, 0));
        where(1, 2);
        due(NO, x.takeOff(2, 2, 2, 0));
        where(0, 1);
        due(NO, x.close(1, 0, 1));
        where(2, 1);
        // Neither what is right, BAD or BIG nor what is taken back is told.
        due(BAD, x.close(0, 0, 1));
        where(2, 1);
        powers(2, n(1000000), 2);
        due(BIG, x.join(2, 2, 2));
        where(2, 1);
        due(0, x.turn(2, 2));
        where(2, 1);
        while (x.undo() == 1) {
            where(2, 1);
        }
        due(NO, x.undo());
        where(2, 1);

        told(15, "NONE: none was.");
        where(NONE, NONE);
        boxes(2, 1);
        due(0, x.join(0, 0, 0));
        due(BAD, x.join(0, 0, 1));
        powers(0, n(1000000), 2);
        due(BIG, x.join(0, 0, 0));
        where(NONE, NONE);
        while (x.undo() == 1) {
            where(NONE, NONE);
        }
        where(NONE, NONE);

        told(15, "BAD.");
        each(BAD, what -> x.where(what), -1, 2, -4, LEAST, GREATEST);
        boxes(2);
        due(NO, x.takeOff(0, 0, 0, 0));
        each(BAD, what -> x.where(what), -1, 2, -4, LEAST, GREATEST);
        where(0, 1);
    }

    private void part() {
        told(16, "Of S i j of a BOX at a TONE: 0 p by 1000000000000 (cut to 0), 1 what is left of p, 2, 3 likewise of q, 4, 5 of r.");
        boxes(2, 1, 1);
        two(0, n(0), n(1000000), n(1000000), n(0));
        // 10 to the 12 and as many as told more, of p and of q; 1 less is all left.
        int[][] more = {{0, 1}, {1, 1}, {-1, 1}, {0, -1}, {1, -1}, {-1, -1}};
        String[] whole = {E12, "1000000000001", "999999999999", "-" + E12, "-999999999999", "-1000000000001"};
        for (int k = 0; k < more.length; k++) {
            entry(0, 0, 0, n(more[k][0]));
            one(1, n(more[k][1]));
            due(0, x.close(2, 0, 1));
            holds(2, 1, 0, 0, whole[k], "0", "1");
            entry(0, 0, 0, n(0, more[k][0], 1));
            one(1, n(0, more[k][1], 1));
            due(0, x.close(2, 0, 1));
            holds(2, 2, 0, 0, "0", whole[k], "1");
        }
        due(-1, x.part(2, 2, 0, 0, 2));
        due(-1, x.part(2, 2, 0, 0, 3));
        two(0, n(0), n(1, 0, 1000000), n(1, 0, 1000000), n(0));
        one(1, n(1));
        due(0, x.close(2, 0, 1));
        holds(2, 3, 0, 0, "1", "0", E12);
        entry(0, 0, 1, n(1, 0, 999999));
        entry(0, 0, 0, n(-3, 7, 1));
        due(0, x.close(2, 0, 1));
        holds(2, 0, 0, 0, "-2999996999999", "6999993000000", "999999000000");

        told(16, "0 p by 1000000000000 (cut to 0), 1 what is left of p, 2, 3 likewise of q, 4, 5 of r.");
        boxes(2, 1, 1);
        powers(0, n(1000000), 1);
        one(1, n(-1, 1, 1));
        due(0, x.close(2, 0, 1));
        due(-1000000000000L, x.part(2, 3, 0, 0, 0));
        due(0, x.part(2, 3, 0, 0, 1));
        due(1000000000000L, x.part(2, 3, 0, 0, 2));
        due(0, x.part(2, 3, 0, 0, 3));
        due(0, x.part(2, 3, 0, 0, 4));
        due(1, x.part(2, 3, 0, 0, 5));
        entry(0, 0, 0, n(1, -1, 1));
        due(0, x.close(2, 0, 1));
        due(-999999999999L, x.part(2, 3, 0, 0, 0));
        due(-999999999999L, x.part(2, 3, 0, 0, 1));
        due(999999999999L, x.part(2, 3, 0, 0, 2));
        due(999999999999L, x.part(2, 3, 0, 0, 3));

        told(16, "BAD answers -1000000000000000.");
        boxes(2, 1);
        int[] notAPort = {-1, 2, 3, LEAST, GREATEST};
        String before = state();
        each(BAD_PART, box -> x.part(box, 0, 0, 0, 0), -1, 2, 16, LEAST, GREATEST);
        each(BAD_PART, tone -> x.part(0, tone, 0, 0, 0), -1, 4, LEAST, GREATEST);
        each(BAD_PART, i -> x.part(0, 0, i, 0, 0), notAPort);
        each(BAD_PART, j -> x.part(0, 0, 0, j, 0), notAPort);
        each(BAD_PART, i -> x.part(1, 0, i, 0, 0), -1, 1, 2);
        each(BAD_PART, j -> x.part(1, 0, 0, j, 0), -1, 1, 2);
        each(BAD_PART, what -> x.part(0, 3, 1, 1, what), -1, 6, LEAST, GREATEST);
        unchanged(before);
    }

    private void about() {
        told(17, "Of a BOX: 0 how many PORTS, 1 at how many TONES it is LIKE BOTH WAYS (one PORT: 4), 2 PASSIVE, 3 LOSSLESS.");
        boxes(2, 1);
        due(2, x.about(0, 0));
        due(1, x.about(1, 0));
        // From 4 to none, a tone each time.
        two(0, n(0), n(1), n(1), n(0));
        one(1, n(0, 1, 1));
        for (int tone = 0; tone < 4; tone++) {
            for (int what = LIKE; what <= LOSSLESS; what++) {
                due(4 - tone, x.about(0, what));
            }
            due(4, x.about(1, LIKE));
            due(4 - tone, x.about(1, PASSIVE));
            due(4 - tone, x.about(1, LOSSLESS));
            due(0, x.set(0, 3 - tone, 0, 1, 2, 0, 1));
            due(0, x.set(1, tone, 0, 0, 2, 0, 1));
        }
        for (int what = LIKE; what <= LOSSLESS; what++) {
            due(0, x.about(0, what));
            due(what == LIKE ? 4 : 0, x.about(1, what));
        }

        told(17, "BAD.");
        boxes(2, 1);
        for (int k = 0; k < 4; k++) {
            int what = k;
            each(BAD, box -> x.about(box, what), -1, 2, 16, LEAST, GREATEST);
        }
        each(BAD, what -> x.about(0, what), -1, 4, 5, LEAST, GREATEST);
        each(BAD, what -> x.about(1, what), -1, 4, 5, LEAST, GREATEST);
    }

    private void is() {
        told(18, "1: at a TONE a BOX is LIKE BOTH WAYS (what = 1; one PORT: 1), PASSIVE (2), LOSSLESS (3); 0.");
        boxes(2, 1);
        // At each tone another of the three is not so.
        two(0, n(0), n(1), n(1), n(0));
        due(0, x.set(0, 0, 0, 1, 0, 1, 1));
        due(0, x.set(0, 1, 0, 0, 1, 0, 1000000));
        due(0, x.set(0, 2, 0, 1, 1, 0, 2));
        due(0, x.set(0, 2, 1, 0, 1, 0, 2));
        int[][] so = {{0, 1, 1}, {1, 0, 0}, {1, 1, 0}, {1, 1, 1}};
        for (int tone = 0; tone < 4; tone++) {
            for (int what = LIKE; what <= LOSSLESS; what++) {
                due(so[tone][what - 1], x.is(0, tone, what));
            }
        }
        due(0, x.set(1, 0, 0, 0, 2, 0, 1));
        due(0, x.set(1, 3, 0, 0, 1, 0, 1));
        for (int tone = 0; tone < 4; tone++) {
            due(1, x.is(1, tone, LIKE));
            due(tone == 0 ? 0 : 1, x.is(1, tone, PASSIVE));
            due(tone == 3 ? 1 : 0, x.is(1, tone, LOSSLESS));
        }

        told(18, "BAD.");
        boxes(2, 1);
        each(BAD, box -> x.is(box, 0, LIKE), -1, 2, 16, LEAST, GREATEST);
        each(BAD, tone -> x.is(0, tone, PASSIVE), -1, 4, LEAST, GREATEST);
        each(BAD, tone -> x.is(1, tone, LIKE), -1, 4, LEAST, GREATEST);
        each(BAD, what -> x.is(0, 0, what), 0, -1, 4, LEAST, GREATEST);
        each(BAD, what -> x.is(1, 0, what), 0, -1, 4, LEAST, GREATEST);
    }

    private void against() {
        told(19, "SIZE of S i j of a against that of S k l of b at a TONE: -1 less, 0 like, 1 greater.");
        boxes(2, 1, 1, 2);
        // Next to one another, at 24 digits; the last bit of what is far off 0 and of what is near it.
        powers(0, n(1000000), 1);
        one(1, n(1));
        due(0, x.close(1, 0, 1));
        one(2, n(1));
        entry(0, 0, 0, n(-1));
        due(0, x.close(2, 0, 2));
        due(1, x.against(2, 1, 0, 0, 2, 0, 0));
        due(-1, x.against(2, 2, 0, 0, 1, 0, 0));
        due(0, x.against(2, 2, 0, 0, 2, 0, 0));
        one(2, n(0, -1, 1));
        entry(0, 0, 0, n(0));
        due(0, x.close(2, 0, 2));
        due(0, x.against(3, 1, 0, 0, 2, 0, 0));
        one(2, n(0, -1, 1));
        entry(0, 0, 0, n(1));
        due(0, x.close(2, 0, 2));
        due(-1, x.against(3, 1, 0, 0, 2, 0, 0));
        // Each place and each tone is its own.
        two(0, n(1), n(2), n(3), n(4));
        two(3, n(4), n(3), n(2), n(1));
        due(0, x.set(3, 2, 0, 1, 0, -5, 1));
        for (int k = 0; k < 16; k++) {
            int of = k / 4;
            int than = k % 4;
            due(Integer.compare(of + 1, 4 - than), x.against(0, 0, of / 2, of % 2, 3, than / 2, than % 2));
        }
        due(-1, x.against(2, 0, 1, 1, 3, 0, 1));
        due(1, x.against(1, 0, 1, 1, 3, 0, 1));
        due(1, x.against(2, 3, 0, 1, 0, 1, 1));

        told(19, "BAD answers -9.");
        boxes(2, 1);
        int[] none = {-1, 2, 3, LEAST, GREATEST};
        each(BAD_AGAINST, tone -> x.against(tone, 0, 0, 0, 0, 0, 0), -1, 4, LEAST, GREATEST);
        each(BAD_AGAINST, a -> x.against(0, a, 0, 0, 0, 0, 0), -1, 2, 16, LEAST, GREATEST);
        each(BAD_AGAINST, i -> x.against(0, 0, i, 0, 0, 0, 0), none);
        each(BAD_AGAINST, j -> x.against(0, 0, 0, j, 0, 0, 0), none);
        each(BAD_AGAINST, b -> x.against(0, 0, 0, 0, b, 0, 0), -1, 2, 16, LEAST, GREATEST);
        each(BAD_AGAINST, k -> x.against(0, 0, 0, 0, 0, k, 0), none);
        each(BAD_AGAINST, l -> x.against(0, 0, 0, 0, 0, 0, l), none);
        each(BAD_AGAINST, i -> x.against(0, 1, i, 0, 0, 0, 0), -1, 1, 2);
        each(BAD_AGAINST, j -> x.against(0, 1, 0, j, 0, 0, 0), -1, 1, 2);
        each(BAD_AGAINST, k -> x.against(0, 0, 0, 0, 1, k, 0), -1, 1, 2);
        each(BAD_AGAINST, l -> x.against(0, 0, 0, 0, 1, 0, l), -1, 1, 2);
        due(0, x.against(0, 0, 1, 1, 1, 0, 0));
    }

    private void worst() {
        told(20, "The TONE at which SIZE of S i j is greatest (of several the first).");
        boxes(1, 2);
        due(0, x.worst(0, 0, 0));
        int[][] p = {{1, 1, 1, 1}, {1, 2, 2, 1}, {0, 0, 3, 3}, {0, 0, 0, 1}, {2, 1, 2, 3}, {5, 1, 5, 5}, {1, 4, 3, 4}};
        int[] first = {0, 1, 2, 3, 3, 0, 1};
        for (int k = 0; k < p.length; k++) {
            for (int tone = 0; tone < 4; tone++) {
                // As far off 0 at each, though not the same.
                boolean turned = tone % 2 == 1;
                due(0, x.set(0, tone, 0, 0, turned ? 0 : -p[k][tone], turned ? p[k][tone] : 0, 7));
            }
            due(first[k], x.worst(0, 0, 0));
        }
        for (int k = 0; k < 4; k++) {
            due(0, x.set(1, k, k / 2, k % 2, 1, 0, 1000000));
        }
        for (int k = 0; k < 4; k++) {
            due(k, x.worst(1, k / 2, k % 2));
        }
        due(0, x.all(0, 0, 0, 1000000, 0, 999999));
        due(0, x.set(0, 2, 0, 0, 999999, 0, 999998));
        due(2, x.worst(0, 0, 0));
        // What stands elsewhere is nothing to it.
        two(1, n(1000000), n(1000000), n(1000000), n(1000000));
        due(2, x.worst(0, 0, 0));
        due(0, x.set(1, 1, 0, 1, 1, 0, 1));
        due(0, x.set(1, 0, 0, 1, 1, 0, 1));
        due(2, x.worst(1, 0, 1));

        told(20, "BAD.");
        boxes(2, 1);
        each(BAD, box -> x.worst(box, 0, 0), -1, 2, 16, LEAST, GREATEST);
        each(BAD, i -> x.worst(0, i, 0), -1, 2, LEAST, GREATEST);
        each(BAD, j -> x.worst(0, 0, j), -1, 2, LEAST, GREATEST);
        each(BAD, i -> x.worst(1, i, 0), -1, 1, 2, LEAST, GREATEST);
        each(BAD, j -> x.worst(1, 0, j), -1, 1, 2, LEAST, GREATEST);
    }

    private void same() {
        told(21, "1: two BOXES are the same at all TONES; 0");
        boxes(2, 2, 1, 1);
        due(1, x.same(0, 1));
        due(1, x.same(0, 0));
        due(1, x.same(3, 2));
        for (int k = 0; k < 16; k++) {
            due(0, x.set(0, k / 4, k / 2 % 2, k % 2, -1, 2, 3));
            due(0, x.same(0, 1));
            due(0, x.set(1, k / 4, k / 2 % 2, k % 2, -2, 4, 6));
            due(1, x.same(1, 0));
        }
        int[][] unlike = {{1, 2, 3}, {-1, -2, 3}, {-1, 2, 4}, {-1, 3, 3}, {2, -1, 3}};
        for (int[] s : unlike) {
            due(0, x.set(0, 3, 1, 1, s[0], s[1], s[2]));
            due(0, x.same(0, 1));
        }
        for (int tone = 0; tone < 4; tone++) {
            due(0, x.set(2, tone, 0, 0, 0, 1, 1));
            due(0, x.same(2, 3));
            due(0, x.set(3, tone, 0, 0, 0, 1, 1));
            due(1, x.same(2, 3));
        }

        told(21, "0 (also unlike PORTS).");
        boxes(2, 1);
        due(0, x.same(0, 1));
        due(0, x.same(1, 0));
        entry(0, 0, 0, n(1));
        one(1, n(1));
        due(0, x.same(0, 1));
        due(0, x.same(1, 0));

        told(21, "BAD.");
        boxes(2, 1);
        each(BAD, a -> x.same(a, 0), -1, 2, 16, LEAST, GREATEST);
        each(BAD, b -> x.same(1, b), -1, 2, 16, LEAST, GREATEST);
        each(BAD, a -> x.same(a, a), -1, 2, 16, LEAST, GREATEST);
    }

    private void count() {
        told(22, "How many: 0 BOXES, 1 acts that can be taken back.");
        for (int k = 0; k < 18; k++) {
            due(Math.min(k, 16), x.count(0));
            due(0, x.count(1));
            x.box(1 + k % 2);
        }
        for (int k = 0; k < 18; k++) {
            due(Math.min(k, 16), x.count(1));
            due(0, x.copy(k % 8, k % 8));
        }
        for (int k = 16; k > 0; k--) {
            due(k, x.count(1));
            due(1, x.undo());
        }
        due(0, x.count(1));
        due(NO, x.undo());
        due(0, x.count(1));
        due(16, x.count(0));

        told(22, "BAD.");
        each(BAD, what -> x.count(what), -1, 2, LEAST, GREATEST);
        boxes(1, 2, 1);
        each(BAD, what -> x.count(what), -1, 2, LEAST, GREATEST);
    }
}
